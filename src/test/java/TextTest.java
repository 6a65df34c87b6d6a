/** Promises 1 to 4: a new object, the tape, reading a text, counting. */
public final class TextTest {
    private static final String SCHOOL = "subject s ; subject u ; room r 9 ; staff t teacher : s ; group g 5 ; ";

    private TextTest() {
    }

    public static void main(String[] args) {
        newObject();
        tape();
        tokens();
        items();
        manyItems();
        blocks();
        exps();
        nodes();
        depth();
        lateFaults();
        counts();
        readAgain();
        nothingStays();
        readOften();
        Check.finish();
    }

    /** A text whose fault lies behind the mark @. */
    private static void fault(String marked) {
        int place = marked.indexOf('@');
        SchoolHouse x = new SchoolHouse();
        Check.due("read of " + marked, Check.read(x, marked.substring(0, place) + marked.substring(place + 1)), -10 - place);
        for (int what = 0; what <= 9; what++) Check.due("count " + what + " behind " + marked, x.count(what), 0);
        Check.due("count 10 behind " + marked, x.count(10), 0);
    }

    private static void ok(String text, int rules) {
        Check.due("read of " + text, Check.read(new SchoolHouse(), text), rules);
    }

    private static void newObject() {
        Check.part("promise 1");
        SchoolHouse x = new SchoolHouse();
        for (int what = 0; what <= 12; what++) Check.due("count " + what, x.count(what), 0);
        Check.due("week", x.week(2), 4);
        Check.due("person", x.person(0, 0), -100);
        Check.due("run", x.run(0, 1, 0, 0, 0, 0), -1);
        Check.due("steps", x.steps(), 0);
        for (int i = -5; i < 3; i++) Check.due("gave", x.gave(i), 0);
        Check.due("standing", x.standing(0), -1);
        Check.due("table 0", x.table(0), -100000);
        Check.due("table 1", x.table(1), -100000);
        Check.due("stable", x.stable(), -2);
        Check.due("cover", x.cover(0), -2);
        Check.due("build", x.build(1), 0);
        Check.due("build's weight", x.table(0), 0);
        Check.due("build's nodes", x.table(1), 0);
        Check.due("cover of nothing", x.cover(0), 0);
        Check.due("match", x.match(0), 0);
        Check.due("stable", x.stable(), 0);
        // an empty school, of 20 periods
        x = new SchoolHouse();
        Check.due("the last period", x.cover(19), -2);
        Check.due("no period", x.cover(20), -1);
        Check.due("build", x.build(10000), 0);
        Check.due("the last period", x.cover(19), 0);
        Check.due("no period", x.cover(20), -1);
        Check.due("week", x.week(4), 4);
        Check.due("no pupils", x.lottery(1), 0);
        Check.due("no group", x.pupil(0, 0), -1);
        Check.due("no staff", x.bar(0, 0, 1), -1);
        Check.due("no staff", x.absent(0, 0, 1), -1);
        Check.due("no lesson", x.wish(0, 0, 0), -100);
        Check.due("no unit", x.unit(0, 0), -1);
        Check.due("no unit", x.covers(0), -1);
        Check.due("no rule", x.stand(0, 1), -1);
        Check.due("a parent", x.parent(0), 0);
        Check.due("no course", x.marks(0, 0, 1), -1);
        Check.due("no course", x.mark(0, 0, 0, 1), -1);
        Check.due("no course", x.markOf(0, 0, 0), -2000000000);
        Check.due("no course", x.prefer(0, 0), -1);
        Check.due("no course", x.ticket(0, 0), 0);
    }

    private static void tape() {
        Check.part("promise 2");
        SchoolHouse x = new SchoolHouse();
        Check.due("feed 0", x.feed(0, 1), -1);
        Check.due("feed 9", x.feed(9, 1), -1);
        Check.due("feed -1", x.feed(-1, 1), -1);
        Check.due("feed the least", x.feed(Integer.MIN_VALUE, 1), -1);
        Check.due("feed the greatest", x.feed(Integer.MAX_VALUE, 1), -1);
        Check.due("count 10", x.count(10), 0);
        // "room" from the lowest byte on; what lies above is left out
        Check.due("feed 4", x.feed(4, 0x4141414100000000L | 'r' | 'o' << 8 | 'o' << 16 | 'm' << 24), 4);
        Check.due("feed 6", x.feed(6, 0x3b3920722020L & 0xffffffffffffL), 10);
        Check.due("count 10", x.count(10), 10);
        Check.due("read", x.read(), 0);
        Check.due("rooms", x.count(1), 1);
        Check.due("count 10", x.count(10), 0);
        for (int i = 1; i <= 299; i++) Check.due("feed 8", x.feed(8, 0x2020202020202020L), 8 * i);
        Check.due("feed 5", x.feed(5, 0x2020202020L), 2397);
        Check.due("feed 4", x.feed(4, 0x20202020L), -3);
        Check.due("feed 9", x.feed(9, 0), -1);
        Check.due("count 10", x.count(10), 2397);
        Check.due("feed 3", x.feed(3, 0x0a200aL), 2400);
        Check.due("feed 1", x.feed(1, 32), -3);
        Check.due("read", x.read(), 0);
        Check.due("rooms", x.count(1), 0);
        Check.due("feed 1", x.feed(1, 0xff), 1);
        Check.due("read", x.read(), -10);
        Check.due("feed 2", x.feed(2, 0), 2);
        Check.due("read", x.read(), -10);
        // a byte above 127 is one byte, wherever it lies
        Check.due("feed 8", x.feed(8, 0xff20202020202020L), 8);
        Check.due("read", x.read(), -17);
        for (int n = 1; n <= 8; n++) {
            Check.due("feed " + n, x.feed(n, 0x2020202020202020L), n);
            Check.due("feed 1", x.feed(1, 'A'), n + 1);
            Check.due("read", x.read(), -10 - n);
        }
        fullTape();
    }

    private static void fullTape() {
        // what is refused is not on the tape
        SchoolHouse x = new SchoolHouse();
        Check.feed(x, " ".repeat(2390) + "room r 9 ");
        Check.due("feed 2", x.feed(2, 0x3b3b), -3);
        Check.due("feed 0", x.feed(0, 0), -1);
        Check.due("feed 9", x.feed(9, 0), -1);
        Check.due("count 10", x.count(10), 2399);
        Check.due("feed 1", x.feed(1, ';'), 2400);
        Check.due("feed 8", x.feed(8, 0x4141414141414141L), -3);
        Check.due("read", x.read(), 0);
        Check.due("rooms", x.count(1), 1);
        // eight bytes fill it to the last one
        for (int i = 1; i <= 300; i++) Check.due("feed 8", x.feed(8, 0x2020202020202020L), 8 * i);
        Check.due("feed 1", x.feed(1, 32), -3);
        Check.due("read", x.read(), 0);
        // the last byte can be the fault, or the text's length
        Check.due("read", Check.read(x, " ".repeat(2399) + "!"), -10 - 2399);
        Check.due("read", Check.read(x, " ".repeat(2391) + "subject s"), -10 - 2400);
        Check.due("read", Check.read(x, "subject s" + " ".repeat(2391)), -10 - 2400);
        Check.due("read", Check.read(x, "subject s" + " ".repeat(2390) + ";"), 0);
    }

    private static void tokens() {
        Check.part("promise 3, tokens");
        ok("subject abcdefgh;subject a1;subject b2c3d4e5", -10 - 44);
        ok("subject abcdefgh;subject a1;subject b2c3d4e5;", 0);
        ok("\n\nsubject\ns\n;\n", 0);
        ok("", 0);
        ok(" \n", 0);
        ok("subject a;room b 99;", 0);
        fault("subject a1b2c3d4@!");
        fault("subject @a1b2c3d4e!");
        fault("room r @100000");
        fault("rule @abcdefghi ( ) { }");
        fault("rule f ( @abcdefghi ) { }");
        fault("rule f ( ) { @abcdefghi = 1 ; }");
        fault("rule f ( x ) { x = @abcdefghi ; }");
        fault("rule f ( x ) { x = @abcdefghi ( 1 ) ; }");
        fault("rule f ( x ) { for @abcdefghi to x { } }");
        fault("subject @abcdefghi ;");
        fault("subject @a12345678 ;");
        fault("subject @1a ;");
        fault("subject @A ;");
        fault("subject a@B ;");
        fault("subject a @\t;");
        fault("subject a @\r;");
        fault("subject a @! ;");
        fault("@;");
        fault("@subjects a ;");
        fault("room r @1000000 ;");
        fault("room r @1.5 ;");
        fault("room r 1@.x ;");
        fault("room r 1@. ;");
        fault("room r 1@.");
        ok("room r 000009 ;", 0);
        fault("room r @0000009 ;");
        ok("room r 9;room q9 9 ;", 0);
        ok("rule f(){x=123456.1234;}", 1);
        ok("rule f(){x=0.0;}", 1);
        ok("rule f(){x=999999;y=000000;}", 1);
        fault("rule f(){x=@1000000;}");
        fault("rule f(){x=@0000000;}");
        ok("rule f(){x=000000.0000;}", 1);
        fault("rule f(){x=@0000000.0;}");
        fault("rule f(){x=@0.00000;}");
        fault("rule f(){x=1 @. 5;}");
        fault("rule f(){x=1@. 5;}");
        fault("rule f(){x=@1234567.1;}");
        fault("rule f(){x=@1.12345;}");
        fault("rule f(){x=1.5@.5;}");
        fault("rule f(){x=1 @.5;}");
        fault("rule f(){x=1@.;}");
        fault("rule f(){x=@.5;}");
        fault("rule f(){x=1.5@x;}");
        fault("rule f(){x=1@x;}");
        for (char c = 0; c < 256; c++) {
            boolean sign = ";:,=+-*/%<>()[]{}".indexOf(c) >= 0;
            if (c == 32 || c == 10) ok("subject a" + c + ";", 0);
            else if (c >= 'a' && c <= 'z' || c >= '0' && c <= '9') ok("subject a" + c + ";", 0);
            else if (c != ';') fault("subject a@" + c + ";");
            if (!sign && c != 32 && c != 10 && !(c >= 'a' && c <= 'z') && !(c >= '0' && c <= '9')) fault("@" + c);
        }
    }

    private static void items() {
        Check.part("promise 3, items");
        fault("subject@");
        fault("subject a@");
        fault("subject a  @");
        fault("subject a ; room @;");
        fault("subject a @room");
        fault("subject @subject ;");
        for (String word : ("subject room staff group lesson course rule teacher tutor head if else for to try on always raise give copy "
            + "divide index null cast size store exact none row reals people teachers whole real lacks person level marks").split(" ")) {
            fault("subject @" + word + " ;");
        }
        for (String word : "subject to on if else teacher divide index null cast store exact always".split(" ")) {
            fault("rule f ( ) { give @" + word + " ; }");
        }
        for (String word : "row reals people teachers size whole real lacks person level marks".split(" ")) {
            fault("rule f ( ) { give " + word + " @; }");
        }
        for (String word : "places kind times act exp block text item base sum term one fail name pupil parent".split(" ")) {
            ok("subject " + word + " ;", 0);
        }
        fault("room r @0 ;");
        fault("room r @100 ;");
        fault("room r @;");
        ok("room r 99 ; room a 1 ;", 0);
        fault("room r @1.0 ;");
        fault("room r @a ;");
        fault("room @9 ;");
        fault("subject s ; subject @s ;");
        fault("subject s ; subject u ; subject @s ;");
        fault("room r 9 ; room @r 9 ;");
        ok("subject r ; room r 9 ; group r 9 ; course r 9 ; staff r head : r ; lesson r : r r r 1 ; rule r ( r ) { r = r ; }", 1);
        fault("staff t teacher : @s ;");
        fault("subject s ; staff t @pupil : s ;");
        fault("subject s ; staff t @size : s ;");
        fault("subject s ; staff t tutor @s ;");
        fault("subject s ; staff t tutor : s , @s ;");
        fault("subject s ; staff t tutor : s , @t ;");
        fault("subject s ; subject u ; staff t tutor : u , @u ;");
        fault("subject s ; subject u ; subject v ; staff t tutor : v , u , s , @v ;");
        fault("subject s ; subject u ; subject v ; staff t tutor : s , v , @v ;");
        ok("subject s ; subject u ; subject v ; staff t tutor : v , u , s ; staff w tutor : v , u , s ;", 0);
        fault("staff t tutor : @s ; subject s ;");
        fault("subject s ; staff t tutor : @room ;");
        fault("subject s ; staff t tutor : @tutor ;");
        fault("subject s ; staff t tutor : @1 ;");
        fault("subject s ; staff t @s ;");
        fault("subject s ; staff @1 tutor : s ;");
        fault("subject s ; staff t tutor : s @u ;");
        fault("subject s ; staff t tutor : s , @;");
        fault("subject s ; staff t tutor : s ; staff @t tutor : s ;");
        ok("subject s ; subject u ; staff t tutor : u , s ;", 0);
        ok("group g 99 ; group h 1 ;", 0);
        fault("group g @0 ;");
        fault("group g @100 ;");
        fault("group g @2.5 ;");
        fault("group g 1 ; group @g 1 ;");
        ok("course c 99 ; course d 1 ;", 0);
        fault("course c @2.5 ;");
        fault("course c @;");
        fault("course c @0 ;");
        fault("course c @100 ;");
        fault("course c 1 ; course @c 1 ;");
        ok(SCHOOL + "lesson l : s g t 3 ;", 0);
        ok(SCHOOL + "lesson l : s g t 1 ; lesson m : s g t 2 ;", 0);
        fault(SCHOOL + "lesson l : @room g t 3 ;");
        fault(SCHOOL + "lesson l : s @room t 3 ;");
        fault(SCHOOL + "lesson l : s g @room 3 ;");
        fault(SCHOOL + "lesson l : @g g t 3 ;");
        fault(SCHOOL + "lesson l : s @t t 3 ;");
        fault(SCHOOL + "lesson l : s g @s 3 ;");
        fault(SCHOOL + "lesson l : s g t @1.0 ;");
        fault(SCHOOL + "lesson l : @v g t 1 ; subject v ;");
        fault(SCHOOL + "lesson l : s @h t 1 ; group h 9 ;");
        fault(SCHOOL + "lesson l : s g @w 1 ; staff w head : s ;");
        fault(SCHOOL + "lesson l @s g t 3 ;");
        fault(SCHOOL + "lesson l : @x g t 3 ;");
        fault(SCHOOL + "lesson l : s @x t 3 ;");
        fault(SCHOOL + "lesson l : s g @x 3 ;");
        fault(SCHOOL + "lesson l : u g @t 3 ;");
        fault(SCHOOL + "lesson l : s g t @0 ;");
        fault(SCHOOL + "lesson l : s g t @4 ;");
        fault(SCHOOL + "lesson l : s g t 1 ; lesson @l : s g t 1 ;");
    }

    private static void manyItems() {
        Check.part("promise 3, too many");
        many(12, "subject n%d ; ", "subject @n99 ;");
        many(6, "room n%d 9 ; ", "room @n99 9 ;");
        many(10, "staff n%d head : s ; ", "staff @n99 head : s ;");
        many(8, "group n%d 9 ; ", "group @n99 9 ;");
        many(12, "lesson n%d : s g t 1 ; ", "lesson @n99 : s g t 1 ;");
        many(8, "course n%d 9 ; ", "course @n99 9 ;");
        many(12, "rule n%d ( ) { } ", "rule @n99 ( ) { }");
        ok("rule f ( a , b , c , d ) { }", 1);
        fault("rule f ( a , b , c , d , @e ) { }");
        fault("rule f ( a , b , c , d , @) { }");
        fault("rule f ( a , @a ) { }");
        fault("rule f ( a , b , @a ) { }");
        fault("rule f ( @if ) { }");
        fault("rule f ( a @b ) { }");
        fault("rule f ( @, ) { }");
        fault("rule f ( a @; ) { }");
        fault("rule f @{ }");
        fault("rule f ( ) @give 1 ;");
        fault("rule f ( ) { } rule @f ( ) { }");
    }

    private static void many(int most, String item, String oneMore) {
        StringBuilder b = new StringBuilder();
        if (item.startsWith("staff")) b.append("subject s ; ");
        if (item.startsWith("lesson")) b.append("subject s ; staff t head : s ; group g 9 ; ");
        for (int i = 0; i < most; i++) b.append(String.format(item, i));
        ok(b.toString(), item.startsWith("rule") ? most : 0);
        fault(b + oneMore);
    }

    private static void blocks() {
        Check.part("promise 3, blocks");
        ok("rule f(x){if x{}}", 1);
        ok("rule f(x){if x{}else{}}", 1);
        fault("rule f(x){if x{}else{}@else{}}");
        fault("rule f(x){@else{}}");
        fault("rule f(x){if x@;}");
        fault("rule f(x){if @{}}");
        ok("rule f(x){for i to x{}}", 1);
        fault("rule f(x){for @to x{}}");
        fault("rule f(x){for i @x{}}");
        fault("rule f(x){for i to @{}}");
        fault("rule f(x){for @1 to x{}}");
        ok("rule f(x){try{}}", 1);
        ok("rule f(x){try{}on null{}always{}}", 1);
        ok("rule f(x){try{}on divide{}on index{}on null{}on cast{}on size{}on store{}on exact{}always{}}", 1);
        fault("rule f(x){try{}on divide{}on index{}on null{}on cast{}on size{}on store{}on exact{}on @exact{}}");
        fault("rule f(x){try{}on null{}on @null{}}");
        fault("rule f(x){try{}on @fail{}}");
        fault("rule f(x){try{}on @{}}");
        fault("rule f(x){try{}always{}@always{}}");
        fault("rule f(x){try{}always{}@on null{}}");
        fault("rule f(x){@on null{}}");
        fault("rule f(x){@always{}}");
        ok("rule f(x){try{try{}on null{}}on null{}}", 1);
        ok("rule f(x){raise exact;}", 1);
        fault("rule f(x){raise @x;}");
        fault("rule f(x){raise exact@}");
        fault("rule f(x){give @;}");
        fault("rule f(x){give x@}");
        ok("rule f(x){copy x,x,x,x,x;}", 1);
        fault("rule f(x){copy x,x,x,x@;}");
        fault("rule f(x){copy x,x,x,x,x@,x;}");
        fault("rule f(x){x@;}");
        fault("rule f(x){x@(1);}");
        fault("rule f(x){x[1=1@;}");
        fault("rule f(x){x[1@;}");
        fault("rule f(x){x[1]@;}");
        fault("rule f(x){x[1]@[1]=1;}");
        fault("rule f(x){@1=1;}");
        fault("rule f(x){@none=1;}");
        fault("rule f(x){@{}}");
        fault("rule f(x){@;}");
        fault("rule f(x){}@}");
        fault("rule f(x){@");
        fault("rule f(x){x=1;@");
    }

    private static void exps() {
        Check.part("promise 3, exps");
        ok("rule f(x){x=-x+-x*-x[x][x]%x/x-x<(x>x)-(x=x);}", 1);
        ok("rule f(x){x=row(1);x=reals(1);x=people(1);x=teachers(1);x=size(x);x=whole(x);x=real(x);x=lacks(x);x=person(x);}", 1);
        ok("rule f(x){x=level(x,x);x=marks(x,x);x=none;x=f(x);x=x=x;}", 1);
        fault("rule f(x){x=x<x@<x;}");
        fault("rule f(x){x=x=x@=x;}");
        fault("rule f(x){x=x>x@=x;}");
        fault("rule f(x){x=(x@;}");
        fault("rule f(x){x=(@);}");
        fault("rule f(x){x=x[@];}");
        fault("rule f(x){x=x[x@;}");
        fault("rule f(x){x=x+@;}");
        fault("rule f(x){x=@+x;}");
        fault("rule f(x){x=x*@*x;}");
        fault("rule f(x){x=row@;}");
        fault("rule f(x){x=row(@);}");
        fault("rule f(x){x=row(x@,x);}");
        fault("rule f(x){x=level(x@);}");
        fault("rule f(x){x=level(x,x@,x);}");
        fault("rule f(x){x=none@(x);}");
        fault("rule f(x){x=f(x@;}");
        fault("rule f(x){x=f(x,@);}");
        fault("rule f(x){x=f(@,x);}");
        fault("rule f(x){x=x @x;}");
        fault("rule f(x){x=@if;}");
        fault("rule f(x){x=@{};}");
    }

    private static void nodes() {
        Check.part("promise 3, nodes");
        SchoolHouse x = Check.school("room r 9 ; rule f(x){x=x;}");
        Check.due("nodes", x.count(7), 2);
        x = Check.school("rule f(x){x[1]=2.5;if x=none{}for i to -x{}try{raise null;}give row(x)[1];copy x,x,x,x,f(x);}");
        // 1 + 1 + 1, 1 + 3, 1 + 2, 1, 1, 1 + 4, 1 + 6
        Check.due("nodes", x.count(7), 3 + 4 + 3 + 1 + 1 + 5 + 7);
        x = Check.school("rule f(x){x=level(person(x),x%2)*(x);}");
        Check.due("nodes", x.count(7), 1 + 8);
        // 30 nodes in an exp
        ok("rule f(x){x=-1" + "+1".repeat(14) + ";}", 1);
        fault("rule f(x){x=1" + "+1".repeat(14) + "+@1;}");
        fault("rule f(x){x=-1" + "+1".repeat(14) + "@+1;}");
        fault("rule f(x){x=-1" + "+1".repeat(14) + "@*1;}");
        fault("rule f(x){x=-1" + "+1".repeat(14) + "@<1;}");
        fault("rule f(x){x=-1" + "+1".repeat(14) + "@[1];}");
        fault("rule f(x){x=-1" + "+1".repeat(13) + "+row(@1);}");
        fault("rule f(x){x=1" + "+1".repeat(14) + "+@row(1);}");
        fault("rule f(x){x=1" + "+1".repeat(14) + "+@f(1);}");
        fault("rule f(x){x=1" + "+1".repeat(14) + "+@-1;}");
        fault("rule f(x){x=1" + "+1".repeat(14) + "+@none;}");
        fault("rule f(x){x=1" + "+1".repeat(14) + "+@1.5;}");
        fault("rule f(x){x=1" + "+1".repeat(14) + "+(((@x)));}");
        // the parts of one act have 30 each
        String half = "-1" + "+1".repeat(14);
        ok("rule f(x){x[" + half + "]=" + half + ";copy " + half + "," + half + "," + half + "," + half + "," + half + ";}", 1);
        fault("rule f(x){x[" + half + "@+1]=1;}");
        fault("rule f(x){x[f(" + "1,".repeat(27) + "1" + ")]=f(" + "1,".repeat(29) + "@1);}");
        // 400 nodes in the text
        String all = "rule f(x){" + "x=1;".repeat(199) + "}rule g(x){x=1;";
        x = Check.school(all + "}");
        Check.due("nodes", x.count(7), 400);
        fault(all + "@x=1;}");
        fault(all + "@try{}}");
        fault("rule f(x){" + "x=1;".repeat(199) + "try{}x=@1;}");
        fault("rule f(x){" + "x=1;".repeat(199) + "x=1@+1;}");
        fault("rule f(x){" + "x=1;".repeat(199) + "x=1@[1];}");
        ok("rule f(x){" + "x=1;".repeat(199) + "x=(1);}subject s;rule g(){}", 2);
        // each thing that can be the 401st: the act of the last exp is the 399th
        for (String end : ("x=-@1; x=-@1.5; x=-@none; x=-@x; x=-@row(1); x=-@level(x,x); x=-@f(1); x=-@-1; x=1@+1; x=1@-1; x=1@*1; x=1@/1; x=1@%1; "
            + "x=1@<1; x=1@>1; x=1@=1; x=x@[1]; x=(-(@1)); x[1]=@1; x=size(@x); x=f(@1); give-@1; if-@1{} for|i|to-@1{}").split(" ")) {
            fault("rule f(x){" + "x=1;".repeat(199) + end.replace('|', ' ') + "}");
        }
        for (String act : "if 1{};for i to 1{};try{};raise null;give 1;copy 1,1,1,1,1;x[1]=1;x=1".split(";")) {
            fault("rule f(x){" + "x=1;".repeat(200) + "@" + act + (act.endsWith("}") ? "" : ";") + "}");
        }
        ok("rule f(x){" + "x=1;".repeat(199) + "x=1;}", 1);
        ok("rule f(x){" + "x=1;".repeat(199) + "try{}try{}}", 1);
    }

    private static void depth() {
        Check.part("promise 3, depth");
        // the { of the rule is one of the 12 around
        ok("rule f(x){x=" + "(".repeat(11) + "x" + ")".repeat(11) + ";}", 1);
        fault("rule f(x){x=" + "(".repeat(11) + "@(x" + ")".repeat(12) + ";}");
        ok("rule f(x){x=" + "-".repeat(11) + "x;}", 1);
        fault("rule f(x){x=" + "-".repeat(11) + "@-x;}");
        fault("rule f(x){x=" + "-".repeat(11) + "@(x);}");
        fault("rule f(x){x=" + "-".repeat(11) + "x@[x];}");
        fault("rule f(x){x=" + "-".repeat(11) + "row@(x);}");
        fault("rule f(x){x=" + "-".repeat(11) + "f@(x);}");
        ok("rule f(x){x=" + "-".repeat(10) + "x[x]+-x[(x)];}", 1);
        ok("rule f(x){x=" + "-".repeat(11) + "x+(x);x=(x)+" + "-".repeat(11) + "x;}", 1);
        ok("rule f(x){x=x[" + "x[".repeat(10) + "x" + "]".repeat(11) + ";}", 1);
        fault("rule f(x){x=x[" + "x[".repeat(10) + "x@[x]" + "]".repeat(11) + ";}");
        ok("rule f(x){x[" + "x[".repeat(10) + "x" + "]".repeat(11) + "=x;}", 1);
        fault("rule f(x){x[" + "x[".repeat(10) + "x@[x]" + "]".repeat(11) + "=x;}");
        // in the ( ) of a call, ahead of a comma and behind it
        for (String call : new String[] {"f(?,x)", "f(x,?)", "level(?,x)", "marks(x,?)", "row(?)", "size(?)", "(?)", "x[?]"}) {
            ok("rule f(x,y){x=" + call.replace("?", "(".repeat(10) + "x" + ")".repeat(10)) + ";}", 1);
            fault("rule f(x,y){x=" + call.replace("?", "(".repeat(10) + "@(x)" + ")".repeat(10)) + ";}");
        }
        ok("rule f(x){" + "try{".repeat(11) + "x=x;" + "}".repeat(12), 1);
        fault("rule f(x){" + "try{".repeat(11) + "x=@(x);" + "}".repeat(12));
        fault("rule f(x){" + "try{".repeat(11) + "x@[x]=x;" + "}".repeat(12));
        fault("rule f(x){" + "try{".repeat(11) + "try@{" + "}".repeat(13));
        ok("rule f(x){" + "if x{}else{".repeat(11) + "x=x;" + "}".repeat(12), 1);
        fault("rule f(x){" + "if x{}else{".repeat(11) + "for i to x@{" + "}".repeat(13));
        ok("rule f(x){" + "if f(x){".repeat(11) + "}".repeat(12), 1);
        fault("rule f(x){" + "if f(x){".repeat(11) + "if f@(x){" + "}".repeat(13));
    }

    private static void lateFaults() {
        Check.part("promise 3, late faults");
        fault("rule f(x){x=@y;}");
        fault("rule f(x){@y[1]=x;}");
        fault("rule f(x){@y[y]=y;}");
        fault("rule f(){give @y;}");
        fault("rule f(){@y[0]=1;}");
        ok("rule f(){give y;y=1;}", 1);
        ok("rule f(){y[0]=1;for y to 1{}}", 1);
        ok("rule f(){if 0{give y;}else{try{}on null{y=1;}}}", 1);
        fault("rule f(){give y;y=1;}rule g(){give @y;}");
        fault("rule f(a,b,c,d){a=b+c+d+@e;}");
        ok("rule f(x){x=y;y=x;}", 1);
        ok("rule f(x){y[x]=x;if x{for y to x{}}}", 1);
        fault("rule f(x){y=x;}rule g(x){x=@y;}");
        fault("rule f(x){x=@y;}rule g(x){x=z;y=x;}");
        fault("rule f(x){give @y=x;}");
        fault("rule f(x){x=@g(x);}");
        ok("rule f(x){x=g(x);}rule g(x){x=f(x);}", 2);
        ok("rule f(x){x=x+f(x);f=f;}", 1);
        fault("rule f(x){x=@g(x,x);}rule g(x){}");
        fault("rule f(x){x=@g();}rule g(x){}");
        fault("rule f(x){x=@f();}");
        fault("rule f(){give @f(1);}");
        ok("rule f(){give f();}", 1);
        ok("rule f(a,b,c,d){give f(d,c,b,a);}", 1);
        fault("rule f(a,b,c,d){give @f(a,b,c);}");
        fault("rule f(a,b,c,d){give @f(a,b,c,d,a);}");
        fault("subject s;rule f(x){x=@s(x);}");
        fault("rule f(x){x=g(g(x)+@g());}rule g(x){}");
        fault("rule f(x){x=@g(g());}rule g(x,y){}");
        fault("rule f(x){x=f(@y)+h();}");
        fault("rule f(x){x=@h()+f(y);}");
        fault("rule f(x){x=@h(y);}");
        // any other fault comes first
        fault("rule f(x){x=y+h();}@;");
        fault("rule f(x){x=y+h();}rule g(){@");
    }

    private static void counts() {
        Check.part("promise 4");
        SchoolHouse x = Check.school(SCHOOL + "room q 3 ; lesson l : s g t 3 ; lesson m : s g t 1 ; course c 1 ; rule f(){give row(1/0);}");
        int[] due = {2, 2, 1, 1, 2, 1, 1, 5, 1, 4, 0, 0, 0};
        for (int what = 0; what <= 12; what++) Check.due("count " + what, x.count(what), due[what]);
        Check.due("count -1", x.count(-1), -1);
        Check.due("count 13", x.count(13), -1);
        Check.due("count of the least", x.count(Integer.MIN_VALUE), -1);
        Check.due("count of the greatest", x.count(Integer.MAX_VALUE), -1);
        Check.due("run", x.run(0, 9, 0, 0, 0, 0), -11);
        Check.due("failures", x.count(12), 1);
        Check.due("pupil", x.pupil(0, 0), 1);
        Check.due("people", x.count(8), 2);
        Check.due("marks", x.marks(1, 0, 2), 0);
        Check.due("marks", x.marks(1, 0, -1), 0);
        Check.due("rows", x.count(11), 1);
        x.feed(3, 0x202020);
        Check.due("tape", x.count(10), 3);
    }

    private static void readAgain() {
        Check.part("promise 3, reading again");
        SchoolHouse x = Check.school(SCHOOL + "lesson l : s g t 2 ; course c 2 ; rule f(p){x=row(2);x[0]=p;if p=9{give 1/0;}give x;}");
        x.week(3);
        x.pupil(0, 5);
        x.marks(1, 0, 1);
        x.prefer(1, 0);
        x.lottery(7);
        x.bar(0, 0, 1);
        x.wish(0, 0, 5);
        x.absent(0, 1, 1);
        x.build(10000);
        x.cover(1);
        x.match(0);
        Check.due("run", x.run(0, 99, 9, 0, 0, 0), -11);
        Check.due("run", x.run(0, 99, 3, 0, 0, 0), 4);
        Check.due("stand", x.stand(0, 99), 1);
        int ticket = x.ticket(1, 0);
        // a text with a fault leaves all as it is
        Check.due("read", Check.read(x, "subject s ; ;"), -22);
        Check.due("gave", x.gave(0), 3);
        Check.due("steps", x.steps(), 4);
        Check.due("standing", x.standing(0), 1);
        Check.due("ticket", x.ticket(1, 0), ticket);
        Check.due("placed", x.placed(1), 0);
        Check.due("covers", x.covers(0), -9);
        Check.due("table", x.table(0), 0);
        Check.due("markOf", x.markOf(1, 0, -1), 1);
        // another text makes all anew, but for N and what is counted ever
        Check.due("read", Check.read(x, SCHOOL + "lesson l : s g t 2 ; course c 2 ; rule f(p){give p;}"), 1);
        Check.due("gave", x.gave(0), 0);
        Check.due("gave", x.gave(-4), 0);
        Check.due("steps", x.steps(), 0);
        Check.due("standing", x.standing(0), -1);
        Check.due("placed", x.placed(1), -1);
        Check.due("stable", x.stable(), -2);
        Check.due("table", x.table(0), -100000);
        Check.due("nodes", x.table(1), -100000);
        Check.due("covers", x.covers(0), -2);
        Check.due("rows", x.count(11), 4);
        Check.due("failures", x.count(12), 1);
        Check.due("people", x.count(8), 1);
        Check.due("pupil", x.pupil(0, 5), 1);
        Check.due("markOf", x.markOf(1, 0, -1), -2000000001);
        Check.due("ticket", x.ticket(1, 0), 0);
        Check.due("prefer", x.prefer(1, 0), 1);
        Check.due("wish", x.wish(0, 0, 0), 0);
        Check.due("build", x.build(10000), 0);
        Check.due("unit", x.unit(0, 1), 0);
        Check.due("unit", x.unit(1, 1), 3);
        Check.due("cover", x.cover(3), 0);
        Check.due("week", x.week(3), 3);
    }

    /** Of what is gone with a text, that which could come back unseen. */
    private static void nothingStays() {
        Check.part("promise 3, what was before is gone");
        String text = SCHOOL + "staff w head : s ; lesson l : s g t 1 ; course c 1 ; rule f ( k ) { if k = 1 { give 5 ; } if k = 2 { give 2.5 ; } "
            + "if k = 3 { give person ( 0 ) ; } give row ( 3 ) ; }";
        for (int k = 1; k <= 4; k++) {
            SchoolHouse x = Check.school(text);
            Check.due("run", x.run(0, 9, k, 0, 0, 0), k);
            x.feed(1, '!');
            Check.due("read", x.read(), -10);
            for (int i = -4; i < 2; i++) Check.due("gave stays", x.gave(i), i == (k == 4 ? -4 : -k) ? held(k) : 0);
            Check.due("steps stay", x.steps(), k == 4 ? 4 : k + 1);
            Check.due("read", Check.read(x, text), 1);
            for (int i = -4; i < 2; i++) Check.due("gave", x.gave(i), 0);
            Check.due("steps", x.steps(), 0);
            x.pupil(0, 0);
            Check.due("marks", x.marks(2, 0, 4), 0);
            x.mark(2, 0, 0, 6);
            for (int i = -4; i < 2; i++) Check.due("gave, with a new row", x.gave(i), 0);
            Check.due("stand", x.stand(0, 9), 1);
            for (int i = -4; i < 2; i++) Check.due("gave, behind a stand()", x.gave(i), 0);
            Check.due("steps, behind a stand()", x.steps(), 0);
        }
        SchoolHouse x = Check.school(text);
        x.parent(3);
        x.pupil(0, 4);
        x.absent(0, 0, 1);
        x.absent(1, 0, 1);
        x.bar(1, 0, 1);
        x.match(1);
        x.lottery(9);
        Check.due("read", Check.read(x, text), 1);
        Check.due("people", x.count(8), 2);
        Check.due("nobody", x.person(2, 0), -100);
        x.build(10000);
        Check.due("not absent", x.cover(0), 0);
        Check.due("nothing open", x.covers(0), -9);
        x.absent(0, 0, 1);
        Check.due("neither barred nor absent", x.cover(0), 0);
        Check.due("neither barred nor absent", x.covers(0), 1);
        Check.due("no match", x.stable(), -2);
        Check.due("a pupil", x.pupil(0, 0), 2);
        Check.due("no ticket", x.ticket(2, 0), 0);
        Check.due("not placed", x.placed(2), -9);
    }

    private static long held(int k) {
        return k == 1 ? 5 : k == 2 ? Double.doubleToLongBits(2.5) : k == 3 ? 0 : 3;
    }

    /** A text's room is used again by the one after the next. */
    private static void readOften() {
        Check.part("promise 3, reading often");
        String large = SCHOOL + "lesson l : s g t 3 ; course c 1 ; rule f(){" + "try{}".repeat(390) + "give g(3);}rule g(n){give n+4;}";
        SchoolHouse x = new SchoolHouse();
        for (int n = 0; n < 6; n++) {
            Check.due("read", Check.read(x, large), 2);
            Check.due("nodes", x.count(7), 390 + 3 + 4);
            Check.due("units", x.count(9), 3);
            Check.due("run", x.run(0, 3000, 0, 0, 0, 0), 1);
            Check.due("gave", x.gave(-1), 7);
            Check.due("steps", x.steps(), 393);
            Check.due("fault", Check.read(x, large + ";"), -10 - large.length());
            Check.due("fault", Check.read(x, large + "rule h(){x=g();}"), -10 - large.length() - 11);
            Check.due("nodes", x.count(7), 390 + 3 + 4);
            Check.due("units", x.count(9), 3);
            Check.due("run", x.run(0, 3000, 0, 0, 0, 0), 1);
        }
        Check.due("read", Check.read(x, "rule h(){}"), 1);
        for (int what = 0; what <= 9; what++) Check.due("count " + what, x.count(what), what == 6 ? 1 : 0);
        Check.due("read", Check.read(x, ""), 0);
        for (int what = 0; what <= 9; what++) Check.due("count " + what, x.count(what), 0);
        Check.due("no rule", x.run(0, 9, 0, 0, 0, 0), -1);
    }
}
