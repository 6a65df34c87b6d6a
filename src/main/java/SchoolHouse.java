import java.util.Arrays;

/** A school house: people, rules for marks, timetables, choices of courses, cover; ../shared/DOC.md says what it does. */
public final class SchoolHouse {
    public static final int BAD = -1, NO = -2, FULL = -3, NONE = -9;

    private static final int MOST_STEPS = 3000;
    private static final int MOST_NODES = 10000;
    private static final int MOST_WORTH = 99;
    private static final int BAD_MARK = -2000000000, NO_MARK = -2000000001;
    private static final int NO_TABLE = -100000;

    private final Scanner tape = new Scanner();
    private final Reader reader = new Reader(tape);
    private final Rows rows = new Rows();
    private final People people = new People();
    private final Machine machine = new Machine(people, rows);
    private final Timetable timetable = new Timetable();
    private final Cover substitutes = new Cover(timetable);
    private final Choices choices = new Choices(people);
    private Text text = new Text();
    private Text spare = new Text();
    private int gaveKind;
    private long gaveData;
    private int gaveSteps;
    private final int[] standings = new int[People.MOST];
    private final int[] standingGrades = new int[People.MOST];
    private final long[] standingReals = new long[People.MOST];
    private int standingCount;

    public SchoolHouse() {
        timetable.open(text);
        machine.open(text);
        substitutes.open(text);
        choices.open(text);
    }

    public int feed(int n, long bytes) {
        if (n < 1 || n > 8) return BAD;
        return tape.put(n, bytes) ? tape.length() : FULL;
    }

    public int read() {
        int fault = reader.readTo(spare);
        tape.wipe();
        if (fault >= 0) return -10 - fault;
        Text old = text;
        text = spare;
        spare = old;
        openSchool();
        return text.howMany(Text.RULE);
    }

    private void openSchool() {
        rows.forget();
        people.forget();
        for (int s = 0; s < text.howMany(Text.STAFF); s++) people.add(text.staffKind[s], s, NONE);
        machine.open(text);
        timetable.open(text);
        substitutes.open(text);
        choices.open(text);
        gaveKind = Machine.EMPTY;
        gaveData = 0;
        gaveSteps = 0;
        standingCount = 0;
    }

    public int count(int what) {
        if (what < 0 || what > 12) return BAD;
        switch (what) {
            case 7: return text.nodes;
            case 8: return people.howMany();
            case 9: return text.units;
            case 10: return tape.length();
            case 11: return rows.made();
            case 12: return machine.failures();
            default: return text.howMany(what);
        }
    }

    // ---- people

    public int pupil(int group, int worth) {
        if (!text.has(Text.GROUP, group) || !isWorth(worth)) return BAD;
        if (people.inGroup(group) >= text.groupSize[group]) return NO;
        if (people.howMany() >= People.MOST) return FULL;
        standingCount = 0;
        return people.add(People.PUPIL, worth, group);
    }

    public int parent(int worth) {
        if (!isWorth(worth)) return BAD;
        if (people.howMany() >= People.MOST) return FULL;
        return people.add(People.PARENT, worth, NONE);
    }

    private static boolean isWorth(int worth) {
        return worth >= -MOST_WORTH && worth <= MOST_WORTH;
    }

    public int person(int p, int what) {
        if (!people.has(p) || what < 0 || what > 2) return -100;
        return what == 0 ? people.kindOf(p) : what == 1 ? people.worthOf(p) : people.groupOf(p);
    }

    public int level(int p, int thing) {
        if (!people.has(p) || !People.isThing(thing)) return BAD;
        return people.levelOf(p, thing);
    }

    public int marks(int p, int course, int n) {
        if (!areThere(p, course) || n < -1 || n > Rows.MOST_ITEMS) return BAD;
        if (!people.isPupil(p)) return NO;
        int row = People.NO_ROW;
        if (n >= 0) {
            row = rows.make(n, 0);
            if (row < 0) return FULL;
        }
        people.keepMarks(p, course, row);
        return 0;
    }

    public int mark(int p, int course, int i, int v) {
        if (!areThere(p, course)) return BAD;
        int row = people.marksOf(p, course);
        if (!rows.has(row, i)) return NO;
        int old = (int) rows.get(row, i);
        rows.set(row, i, v);
        return old;
    }

    public int markOf(int p, int course, int i) {
        if (!areThere(p, course)) return BAD_MARK;
        int row = people.marksOf(p, course);
        if (i == -1) return row < 0 ? NO_MARK : rows.size(row);
        return rows.has(row, i) ? (int) rows.get(row, i) : NO_MARK;
    }

    /** Whether there is such a person and such a course. */
    private boolean areThere(int p, int course) {
        return people.has(p) && text.has(Text.COURSE, course);
    }

    // ---- rules

    public int run(int rule, int steps, int a, int b, int c, int d) {
        if (!text.has(Text.RULE, rule) || !isSteps(steps)) return BAD;
        int ended = machine.begin(rule, steps, a, b, c, d);
        gaveKind = ended < 0 ? Machine.EMPTY : ended;
        gaveData = machine.given();
        gaveSteps = machine.stepsDone();
        return ended;
    }

    private static boolean isSteps(int steps) {
        return steps >= 1 && steps <= MOST_STEPS;
    }

    public long gave(int i) {
        if (i == -1) return gaveKind == Machine.WHOLE ? gaveData : 0;
        if (i == -2) return gaveKind == Machine.REAL ? gaveData : 0;
        if (i == -3) return gaveKind == Machine.PERSON ? gaveData : 0;
        if (gaveKind < Machine.ROW) return 0;
        int row = (int) gaveData;
        if (i == -4) return rows.size(row);
        return rows.get(row, i);
    }

    public int steps() {
        return gaveSteps;
    }

    public int stand(int rule, int steps) {
        if (!text.has(Text.RULE, rule) || !isSteps(steps) || text.ruleNames[rule] != 1) return BAD;
        standingCount = 0;
        for (int p = 0; p < people.howMany(); p++) {
            if (people.isPupil(p)) place(p, machine.begin(rule, steps, p, 0, 0, 0));
        }
        return standingCount;
    }

    /** Puts a pupil behind all those that have come before and are not worse. */
    private void place(int p, int ended) {
        long real = ended == Machine.WHOLE ? Reals.fromWhole(machine.given()) : machine.given();
        int grade = ended != Machine.WHOLE && ended != Machine.REAL ? 2 : Reals.isNan(real) ? 1 : 0;
        int at = standingCount;
        if (at >= People.MOST) return;
        for (; at > 0 && isAhead(grade, real, at - 1); at--) {
            standings[at] = standings[at - 1];
            standingGrades[at] = standingGrades[at - 1];
            standingReals[at] = standingReals[at - 1];
        }
        standings[at] = p;
        standingGrades[at] = grade;
        standingReals[at] = real;
        standingCount++;
    }

    private boolean isAhead(int grade, long real, int at) {
        if (grade != standingGrades[at]) return grade < standingGrades[at];
        return grade == 0 && Reals.isLess(real, standingReals[at]);
    }

    public int standing(int k) {
        return k >= 0 && k < standingCount ? standings[k] : BAD;
    }

    // ---- the table

    public int week(int n) {
        if (n < 1 || n > 4) return BAD;
        int old = timetable.daily();
        timetable.setDaily(n);
        substitutes.forget();
        return old;
    }

    public int bar(int staff, int period, int on) {
        if (!isStaffThere(staff, period, on)) return BAD;
        timetable.setBarred(staff, period, on == 1);
        return 0;
    }

    /** Whether there is such a one of staff and such a PERIOD, and on is 0 or 1. */
    private boolean isStaffThere(int staff, int period, int on) {
        return text.has(Text.STAFF, staff) && timetable.hasPeriod(period) && (on == 0 || on == 1);
    }

    public int wish(int lesson, int period, int weight) {
        if (!text.has(Text.LESSON, lesson) || !timetable.hasPeriod(period) || !isWorth(weight)) return -100;
        return timetable.setWish(lesson, period, weight);
    }

    public int build(int nodes) {
        if (nodes < 1 || nodes > MOST_NODES) return BAD;
        substitutes.uncover();
        return timetable.search(nodes);
    }

    public int table(int what) {
        if (what < 0 || what > 1) return BAD;
        if (what == 0) return timetable.isFound() ? timetable.bestWeight() : NO_TABLE;
        return timetable.isSearched() ? timetable.nodes() : NO_TABLE;
    }

    public int unit(int u, int what) {
        if (u < 0 || u >= text.units || what < 0 || what > 2) return BAD;
        if (!timetable.isFound()) return NO;
        return what == 0 ? text.unitLesson[u] : what == 1 ? timetable.periodOf(u) : timetable.roomOf(u);
    }

    // ---- choices

    public int prefer(int p, int course) {
        if (!areThere(p, course)) return BAD;
        if (!people.isPupil(p) || choices.rankOf(p, course) >= 0) return NO;
        return choices.rank(p, course);
    }

    public int lottery(int seed) {
        return choices.draw(seed);
    }

    public int ticket(int p, int course) {
        return areThere(p, course) ? choices.ticketOf(p, course) : 0;
    }

    public int match(int way) {
        if (way < 0 || way > 1) return BAD;
        return way == 0 ? choices.offers() : choices.trades();
    }

    public int placed(int p) {
        return people.has(p) ? choices.courseOf(p) : BAD;
    }

    public int stable() {
        return choices.isMatched() ? choices.firstEnvy() : NO;
    }

    // ---- cover

    public int absent(int staff, int period, int on) {
        if (!isStaffThere(staff, period, on)) return BAD;
        substitutes.setAbsent(staff, period, on == 1);
        return 0;
    }

    public int cover(int period) {
        if (!timetable.hasPeriod(period)) return BAD;
        if (!timetable.isFound()) return NO;
        return substitutes.fill(period);
    }

    public int covers(int unit) {
        if (unit < 0 || unit >= text.units) return BAD;
        if (!timetable.isFound() || !substitutes.isFilled()) return NO;
        return substitutes.staffOf(unit);
    }

    /** THE TAPE, and the tokens of the text on it. */
    static final class Scanner {
        static final int ROOM = 2400;
        static final int END = 0, WORD = 1, NUMBER = 2, REAL = 3, SIGN = 4, WRONG = 5;
        private static final String SIGNS = ";:,=+-*/%<>()[]{}";
        private static final int LONGEST_WORD = 8, LONGEST_NUMBER = 6, LONGEST_FRACTION = 4;

        private final byte[] tape = new byte[ROOM];
        private int length;
        private int at;
        private int fault;
        private int kind;
        private int start;
        private long word;
        /** The digits of a NUMBER or REAL, and how many of them lie behind the point. */
        private long digits;
        private int places;
        private char sign;

        int length() {
            return length;
        }

        void wipe() {
            length = 0;
        }

        boolean put(int n, long bytes) {
            if (n < 0 || length + n > ROOM) return false;
            for (int i = 0; i < n; i++) tape[length + i] = (byte) (bytes >> 8 * i);
            length += n;
            return true;
        }

        /** The place of the first token that can't stand; -1: all could so far. */
        int fault() {
            return fault;
        }

        int kind() {
            return kind;
        }

        int start() {
            return start;
        }

        long word() {
            return word;
        }

        int whole() {
            return (int) digits;
        }

        long digits() {
            return digits;
        }

        int places() {
            return places;
        }

        void begin() {
            at = 0;
            fault = -1;
            pass(true);
        }

        /**
         * Goes on to the next token, if this one can stand. Else it is THE FAULT, and from here on no token
         * fits anything, so that all that is under way comes to its end.
         */
        void pass(boolean stands) {
            if (!stands || fault >= 0) {
                if (fault < 0) fault = start;
                kind = WRONG;
                return;
            }
            while (at < length && (tape[at] == 32 || tape[at] == 10)) at++;
            start = at;
            if (at >= length) {
                kind = END;
            } else if (isLetter(at)) {
                takeWord();
            } else if (isDigit(at)) {
                takeNumber();
            } else {
                sign = (char) (tape[at] & 255);
                kind = SIGNS.indexOf(sign) >= 0 ? SIGN : WRONG;
                at++;
            }
        }

        boolean isSign(char c) {
            return kind == SIGN && sign == c;
        }

        /** Which of some signs the token is; -1: none of them. */
        int findSign(String signs) {
            return kind == SIGN ? signs.indexOf(sign) : -1;
        }

        /** Which of some words, told with a blank between, the token is; -1: none of them. */
        int find(String words) {
            if (kind != WORD) return -1;
            int index = 0;
            long packed = 0;
            for (int i = 0; i < words.length(); i++) {
                if (words.charAt(i) != ' ') {
                    packed = packed << 8 | words.charAt(i);
                } else {
                    if (packed == word) return index;
                    packed = 0;
                    index++;
                }
            }
            return packed == word ? index : -1;
        }

        private boolean isLetter(int i) {
            return i < length && tape[i] >= 'a' && tape[i] <= 'z';
        }

        private boolean isDigit(int i) {
            return i < length && tape[i] >= '0' && tape[i] <= '9';
        }

        private void takeWord() {
            word = 0;
            while (at < length && (isLetter(at) || isDigit(at))) {
                word = word << 8 | tape[at];
                at++;
            }
            kind = at - start <= LONGEST_WORD ? WORD : WRONG;
        }

        private void takeNumber() {
            digits = 0;
            for (; at < length && isDigit(at); at++) digits = digits * 10 + (tape[at] - '0');
            kind = at - start <= LONGEST_NUMBER ? NUMBER : WRONG;
            if (at >= length || tape[at] != '.' || !isDigit(at + 1)) return;
            at++;
            int from = at;
            for (; at < length && isDigit(at); at++) digits = digits * 10 + (tape[at] - '0');
            places = at - from;
            kind = kind == NUMBER && places <= LONGEST_FRACTION ? REAL : WRONG;
        }
    }

    /** What a text tells: its things by number, and the code of its rules. */
    static final class Text {
        static final int SUBJECT = 0, ROOM = 1, STAFF = 2, GROUP = 3, LESSON = 4, COURSE = 5, RULE = 6;
        static final int MOST_SUBJECTS = 12, MOST_ROOMS = 6, MOST_STAFF = 10, MOST_GROUPS = 8;
        static final int MOST_LESSONS = 12, MOST_COURSES = 8, MOST_RULES = 12, MOST_TIMES = 3;
        static final int MOST_UNITS = MOST_LESSONS * MOST_TIMES;
        /** More than any text asks for: the dearest for its bytes and NODES are tries, and they ask for 2200 in all. */
        static final int MOST_CODE = 2400;

        private final long[][] names = new long[7][MOST_SUBJECTS];
        private final int[] counts = new int[7];
        final int[] roomPlaces = new int[MOST_ROOMS];
        final int[] staffKind = new int[MOST_STAFF];
        /** The subjects of each of staff, a bit each. */
        final int[] staffSubjects = new int[MOST_STAFF];
        final int[] groupSize = new int[MOST_GROUPS];
        final int[] lessonSubject = new int[MOST_LESSONS];
        final int[] lessonGroup = new int[MOST_LESSONS];
        final int[] lessonStaff = new int[MOST_LESSONS];
        final int[] coursePlaces = new int[MOST_COURSES];
        final int[] unitLesson = new int[MOST_UNITS];
        int units;
        final int[] ruleStart = new int[MOST_RULES];
        final int[] ruleNames = new int[MOST_RULES];
        final int[] ruleSlots = new int[MOST_RULES];
        int nodes;
        private final int[] code = new int[MOST_CODE];
        private int codeLength;

        void forget() {
            Arrays.fill(counts, 0);
            units = 0;
            nodes = 0;
            codeLength = 0;
        }

        int howMany(int kind) {
            return kind >= 0 && kind < counts.length ? counts[kind] : 0;
        }

        boolean has(int kind, int number) {
            return number >= 0 && number < howMany(kind);
        }

        int find(int kind, long name) {
            for (int i = 0; i < howMany(kind); i++) {
                if (names[kind][i] == name) return i;
            }
            return -1;
        }

        private static int most(int kind) {
            switch (kind) {
                case SUBJECT: return MOST_SUBJECTS;
                case ROOM: return MOST_ROOMS;
                case STAFF: return MOST_STAFF;
                case GROUP: return MOST_GROUPS;
                case LESSON: return MOST_LESSONS;
                case COURSE: return MOST_COURSES;
                case RULE: return MOST_RULES;
                default: return 0;
            }
        }

        /** The number of a new name; -1: it is told already, or one too many. */
        int tell(int kind, long name) {
            if (howMany(kind) >= most(kind) || find(kind, name) >= 0) return -1;
            names[kind][counts[kind]] = name;
            counts[kind]++;
            return counts[kind] - 1;
        }

        boolean teaches(int staff, int subject) {
            return has(STAFF, staff) && subject >= 0 && (staffSubjects[staff] >> subject & 1) == 1;
        }

        void addUnits(int lesson, int times) {
            for (int i = 0; i < times && units < MOST_UNITS; i++) {
                unitLesson[units] = lesson;
                units++;
            }
        }

        int codeLength() {
            return codeLength;
        }

        void emit(int x) {
            if (codeLength >= MOST_CODE) return;
            code[codeLength] = x;
            codeLength++;
        }

        int codeAt(int i) {
            return i >= 0 && i < codeLength ? code[i] : Machine.END_RULE;
        }

        void patch(int i, int x) {
            if (i >= 0 && i < codeLength) code[i] = x;
        }
    }

    /** Reads a text: finds THE FAULT, or tells what it says and the code of its rules. */
    static final class Reader {
        private static final String ITEMS = "subject room staff group lesson course rule";
        private static final String KINDS = "teacher tutor head";
        private static final String ACTS = "if for try raise give copy";
        private static final String FAILS = "divide index null cast size store exact";
        private static final String BASES = "row reals people teachers size whole real lacks person level marks";
        private static final String OTHERS = "else to on always none";
        private static final int IF = 0, FOR = 1, TRY = 2, RAISE = 3, GIVE = 4;
        private static final int FIRST_BASE_OF_TWO = 9;
        private static final int MOST_NODES = 400, MOST_EXP_NODES = 30, MOST_DEPTH = 12, MOST_NAMES = 4;
        /** Each variable beside the rule's names has a NODE of its own. */
        private static final int MOST_VARIABLES = MOST_NODES + MOST_NAMES;

        private final Scanner in;
        private Text out;
        /** The first fault of those that are looked for behind all others. */
        private int late;
        /** How many exps are open, one in another, and the NODES of the outermost one. */
        private int openExps;
        private int expNodes;
        private final long[] variables = new long[MOST_VARIABLES];
        /** Where a variable was used first; below 0: it is told. */
        private final int[] usedAt = new int[MOST_VARIABLES];
        private int variableCount;
        private final long[] callName = new long[MOST_NODES];
        private final int[] callPlace = new int[MOST_NODES];
        private final int[] callCode = new int[MOST_NODES];
        private int callCount;

        Reader(Scanner in) {
            this.in = in;
        }

        /** -1, or the place of THE FAULT. */
        int readTo(Text text) {
            out = text;
            out.forget();
            late = -1;
            openExps = 0;
            callCount = 0;
            in.begin();
            for (int n = 0; n < Scanner.ROOM && stands() && in.kind() != Scanner.END; n++) {
                int item = in.find(ITEMS);
                in.pass(item >= 0);
                switch (item) {
                    case Text.SUBJECT: subject(); break;
                    case Text.ROOM: room(); break;
                    case Text.STAFF: staff(); break;
                    case Text.GROUP: group(); break;
                    case Text.LESSON: lesson(); break;
                    case Text.COURSE: course(); break;
                    case Text.RULE: rule(); break;
                    default: break;
                }
            }
            linkCalls();
            return stands() ? late : in.fault();
        }

        /** Whether all tokens could stand so far. */
        private boolean stands() {
            return in.fault() < 0;
        }

        private void refuseLate(int place) {
            if (late < 0 || place < late) late = place;
        }

        // ---- the things of the school

        private void subject() {
            newName(Text.SUBJECT);
            sign(';');
        }

        private void room() {
            int room = newName(Text.ROOM);
            int places = number(99);
            sign(';');
            if (stands()) out.roomPlaces[room] = places;
        }

        private void staff() {
            int staff = newName(Text.STAFF);
            int kind = in.find(KINDS);
            in.pass(kind >= 0);
            sign(':');
            int subjects = addSubject(0);
            for (int n = 0; n < Text.MOST_SUBJECTS && in.isSign(','); n++) {
                in.pass(true);
                subjects = addSubject(subjects);
            }
            sign(';');
            if (stands()) {
                out.staffKind[staff] = People.TEACHER + kind;
                out.staffSubjects[staff] = subjects;
            }
        }

        private int addSubject(int subjects) {
            int subject = told(Text.SUBJECT);
            boolean stands = subject >= 0 && (subjects >> subject & 1) == 0;
            in.pass(stands);
            return stands ? subjects | 1 << subject : subjects;
        }

        private void group() {
            int group = newName(Text.GROUP);
            int size = number(99);
            sign(';');
            if (stands()) out.groupSize[group] = size;
        }

        private void lesson() {
            int lesson = newName(Text.LESSON);
            sign(':');
            int subject = told(Text.SUBJECT);
            in.pass(subject >= 0);
            int group = told(Text.GROUP);
            in.pass(group >= 0);
            int staff = told(Text.STAFF);
            in.pass(staff >= 0 && out.teaches(staff, subject));
            int times = number(Text.MOST_TIMES);
            sign(';');
            if (stands()) {
                out.lessonSubject[lesson] = subject;
                out.lessonGroup[lesson] = group;
                out.lessonStaff[lesson] = staff;
                out.addUnits(lesson, times);
            }
        }

        private void course() {
            int course = newName(Text.COURSE);
            int places = number(99);
            sign(';');
            if (stands()) out.coursePlaces[course] = places;
        }

        private boolean isName() {
            return in.kind() == Scanner.WORD && in.find(ITEMS) < 0 && in.find(KINDS) < 0 && in.find(ACTS) < 0
                && in.find(FAILS) < 0 && in.find(BASES) < 0 && in.find(OTHERS) < 0;
        }

        private int newName(int kind) {
            int number = isName() ? out.tell(kind, in.word()) : -1;
            in.pass(number >= 0);
            return number;
        }

        /** The number of what the token names; -1: nothing that is told ahead. */
        private int told(int kind) {
            return isName() ? out.find(kind, in.word()) : -1;
        }

        private int number(int most) {
            int number = in.whole();
            in.pass(in.kind() == Scanner.NUMBER && number >= 1 && number <= most);
            return number;
        }

        private void sign(char c) {
            in.pass(in.isSign(c));
        }

        // ---- rules

        private void rule() {
            int rule = newName(Text.RULE);
            variableCount = 0;
            sign('(');
            if (!in.isSign(')')) {
                ruleName();
                for (int n = 0; n < MOST_NAMES && in.isSign(','); n++) {
                    in.pass(true);
                    ruleName();
                }
            }
            sign(')');
            if (!stands()) return;
            out.ruleStart[rule] = out.codeLength();
            out.ruleNames[rule] = variableCount;
            block(0);
            out.emit(Machine.END_RULE);
            out.ruleSlots[rule] = variableCount;
            for (int v = 0; v < variableCount; v++) {
                if (usedAt[v] >= 0) refuseLate(usedAt[v]);
            }
        }

        private void ruleName() {
            boolean stands = isName() && variableCount < MOST_NAMES && findVariable(in.word()) < 0;
            if (stands) tellVariable(in.word());
            in.pass(stands);
        }

        private int findVariable(long name) {
            for (int v = 0; v < variableCount; v++) {
                if (variables[v] == name) return v;
            }
            return -1;
        }

        private int tellVariable(long name) {
            int v = useVariable(name, -1);
            if (v >= 0) usedAt[v] = -1;
            return v;
        }

        private int useVariable(long name, int place) {
            int v = findVariable(name);
            if (v >= 0 || variableCount >= MOST_VARIABLES) return v;
            variables[variableCount] = name;
            usedAt[variableCount] = place;
            variableCount++;
            return variableCount - 1;
        }

        private void linkCalls() {
            for (int i = 0; i < callCount; i++) {
                int rule = out.find(Text.RULE, callName[i]);
                int exps = out.codeAt(callCode[i] + 1);
                if (rule < 0 || out.ruleNames[rule] != exps) refuseLate(callPlace[i]);
                out.patch(callCode[i], rule);
            }
        }

        /** Whether one more NODE can stand. */
        private boolean countNode() {
            out.nodes++;
            return out.nodes <= MOST_NODES;
        }

        private boolean countExpNode() {
            expNodes++;
            return countNode() && expNodes <= MOST_EXP_NODES;
        }

        /** One of ( [ { or - that lies in so many others. */
        private void open(char c, int depth) {
            in.pass(depth < MOST_DEPTH && in.isSign(c));
        }

        private int hole() {
            out.emit(0);
            return out.codeLength() - 1;
        }

        private void fill(int hole) {
            out.patch(hole, out.codeLength());
        }

        private void emit(int op, int x) {
            out.emit(op);
            out.emit(x);
        }

        private int emitHole(int op) {
            out.emit(op);
            return hole();
        }

        // ---- acts

        private void block(int depth) {
            open('{', depth);
            for (int n = 0; n <= MOST_NODES && stands() && !in.isSign('}'); n++) act(depth + 1);
            sign('}');
        }

        private void act(int depth) {
            if (!countNode()) in.pass(false);
            out.emit(Machine.STEP);
            int act = in.find(ACTS);
            if (act < 0) {
                nameAct(depth);
                return;
            }
            in.pass(true);
            switch (act) {
                case IF: ifAct(depth); break;
                case FOR: forAct(depth); break;
                case TRY: tryAct(depth); break;
                case RAISE: raiseAct(); break;
                case GIVE: giveAct(depth); break;
                default: copyAct(depth); break;
            }
        }

        private void nameAct(int depth) {
            long name = in.word();
            int place = in.start();
            in.pass(isName());
            if (in.isSign('[')) {
                int slot = useVariable(name, place);
                open('[', depth);
                exp(depth + 1);
                sign(']');
                sign('=');
                exp(depth);
                emit(Machine.SET_ITEM, slot);
            } else {
                sign('=');
                int slot = tellVariable(name);
                exp(depth);
                emit(Machine.SET, slot);
            }
            sign(';');
        }

        private void ifAct(int depth) {
            exp(depth);
            int no = emitHole(Machine.UNLESS);
            block(depth);
            if (in.find("else") == 0) {
                in.pass(true);
                int end = emitHole(Machine.JUMP);
                fill(no);
                block(depth);
                fill(end);
            } else {
                fill(no);
            }
        }

        private void forAct(int depth) {
            long name = in.word();
            in.pass(isName());
            int slot = tellVariable(name);
            in.pass(in.find("to") == 0);
            exp(depth);
            out.emit(Machine.LOOP);
            int round = out.codeLength();
            emit(Machine.ROUND, slot);
            int end = hole();
            block(depth);
            emit(Machine.JUMP, round);
            fill(end);
        }

        /** The machine finds the blocks of "on" behind the first block: each ON tells where the next one is. */
        private void tryAct(int depth) {
            int chain = emitHole(Machine.TRY);
            block(depth);
            out.emit(Machine.LEAVE);
            fill(chain);
            int seen = 0;
            for (int n = 0; n <= Machine.EXACT && in.find("on") == 0; n++) {
                in.pass(true);
                int failure = failure(seen);
                seen |= 1 << failure;
                emit(Machine.ON, failure);
                int next = hole();
                block(depth);
                out.emit(Machine.LEAVE);
                fill(next);
            }
            if (in.find("always") == 0) {
                in.pass(true);
                block(depth);
            }
            out.emit(Machine.FINISH);
        }

        private int failure(int seen) {
            int failure = in.find(FAILS) + 1;
            in.pass(failure > 0 && (seen >> failure & 1) == 0);
            return failure;
        }

        private void raiseAct() {
            emit(Machine.RAISE, failure(0));
            sign(';');
        }

        private void giveAct(int depth) {
            exp(depth);
            out.emit(Machine.GIVE);
            sign(';');
        }

        private void copyAct(int depth) {
            exp(depth);
            for (int n = 0; n < 4; n++) {
                sign(',');
                exp(depth);
            }
            out.emit(Machine.COPY);
            sign(';');
        }

        // ---- exps

        private void exp(int depth) {
            if (openExps == 0) expNodes = 0;
            openExps++;
            sum(depth);
            int compare = in.findSign("<>=");
            if (compare >= 0) {
                in.pass(countExpNode());
                sum(depth);
                emit(Machine.COMPARE, compare);
            }
            openExps--;
        }

        private void sum(int depth) {
            term(depth);
            for (int n = 0; n < MOST_EXP_NODES && in.findSign("+-") >= 0; n++) {
                int op = Machine.PLUS + in.findSign("+-");
                in.pass(countExpNode());
                term(depth);
                emit(Machine.WORK, op);
            }
        }

        private void term(int depth) {
            one(depth);
            for (int n = 0; n < MOST_EXP_NODES && in.findSign("*/%") >= 0; n++) {
                int op = Machine.TIMES + in.findSign("*/%");
                in.pass(countExpNode());
                one(depth);
                emit(Machine.WORK, op);
            }
        }

        private void one(int depth) {
            if (in.isSign('-')) {
                if (!countExpNode()) in.pass(false);
                open('-', depth);
                if (stands()) one(depth + 1);
                out.emit(Machine.NEGATE);
                return;
            }
            base(depth);
            for (int n = 0; n < MOST_EXP_NODES && in.isSign('['); n++) {
                if (!countExpNode()) in.pass(false);
                inner('[', ']', depth);
                out.emit(Machine.ITEM);
            }
        }

        /** An exp in ( ) or [ ]. */
        private void inner(char from, char to, int depth) {
            open(from, depth);
            if (stands()) exp(depth + 1);
            sign(to);
        }

        private void base(int depth) {
            if (in.isSign('(')) {
                inner('(', ')', depth);
                return;
            }
            if (!countExpNode()) in.pass(false);
            int kind = in.kind();
            int call = in.find(BASES);
            if (kind == Scanner.NUMBER) emit(Machine.PUSH_WHOLE, in.whole());
            else if (kind == Scanner.REAL) emitReal(Reals.decimal(in.digits(), in.places()));
            else if (in.find("none") == 0) out.emit(Machine.PUSH_NONE);
            else if (call < 0) {
                named(depth);
                return;
            }
            in.pass(true);
            if (call >= 0) baseCall(call, depth);
        }

        private void emitReal(long real) {
            emit(Machine.PUSH_REAL, (int) (real >> 32));
            out.emit((int) real);
        }

        private void named(int depth) {
            long name = in.word();
            int place = in.start();
            in.pass(isName());
            if (in.isSign('(')) ruleCall(name, place, depth);
            else emit(Machine.GET, useVariable(name, place));
        }

        private void baseCall(int call, int depth) {
            open('(', depth);
            if (stands()) exp(depth + 1);
            if (call >= FIRST_BASE_OF_TWO) {
                sign(',');
                if (stands()) exp(depth + 1);
            }
            sign(')');
            if (call <= Machine.TEACHERS) emit(Machine.MAKE, call);
            else out.emit(Machine.SIZE_OF + call - Machine.TEACHERS - 1);
        }

        private void ruleCall(long name, int place, int depth) {
            open('(', depth);
            int exps = 0;
            if (stands() && !in.isSign(')')) {
                exp(depth + 1);
                exps++;
                for (int n = 0; n < MOST_EXP_NODES && in.isSign(','); n++) {
                    in.pass(true);
                    exp(depth + 1);
                    exps++;
                }
            }
            sign(')');
            out.emit(Machine.CALL);
            if (callCount < MOST_NODES) {
                callName[callCount] = name;
                callPlace[callCount] = place;
                callCode[callCount] = out.codeLength();
                callCount++;
            }
            emit(-1, exps);
        }
    }

    /**
     * REALS, as the 64 bits of a double, reckoned in whole numbers: LANGUAGE.md leaves no % of doubles,
     * none that is NaN, and no way from a double to its bits.
     */
    static final class Reals {
        static final long NAN = 0x7ff8000000000000L;
        private static final long INFINITE = 0x7ff0000000000000L;
        private static final long MINUS = 0x8000000000000000L;
        private static final long HIDDEN = 0x0010000000000000L;
        private static final long LOW_HALF = (1L << 27) - 1;
        private static final int BITS = 53, LEAST_PLACE = -1074, GREATEST_PLACE = 971;

        static boolean isNan(long a) {
            return (a & ~MINUS) > INFINITE;
        }

        private static boolean isInfinite(long a) {
            return (a & ~MINUS) == INFINITE;
        }

        private static boolean isZero(long a) {
            return (a & ~MINUS) == 0;
        }

        /** A finite real is its digits times 2 to the power of its place. */
        private static long digits(long a) {
            long fraction = a & HIDDEN - 1;
            return (a & INFINITE) == 0 ? fraction : fraction | HIDDEN;
        }

        private static int place(long a) {
            return Math.max((int) (a >>> 52 & 0x7ff), 1) - 1 + LEAST_PLACE;
        }

        /** How many bits a number has that is not below 0. */
        private static int width(long m) {
            int width = 0;
            long rest = m;
            for (int s = 32; s > 0; s >>= 1) {
                if (rest >>> s != 0) {
                    rest >>>= s;
                    width += s;
                }
            }
            return rest == 0 ? 0 : width + 1;
        }

        /** How far the digits must go to the left till they are BITS long. */
        private static int lack(long a) {
            return BITS - width(digits(a));
        }

        /** A number without its n lowest bits; what was lost there leaves a 1 at the end. */
        private static long jammed(long m, int n) {
            if (n <= 0) return m;
            if (n > 62) return m == 0 ? 0 : 1;
            return m >>> n | ((m & (1L << n) - 1) == 0 ? 0 : 1);
        }

        /** The real nearest to m times 2 to the power of a place (of two the even one); m is not below 0. */
        private static long nearest(long sign, long m, int place) {
            if (m <= 0) return sign;
            int cut = Math.max(width(m) - BITS, LEAST_PLACE - place);
            if (cut > 63) return sign;
            if (place + cut > GREATEST_PLACE) return sign | INFINITE;
            long kept = cut <= 0 ? m << -cut : m >>> cut;
            if (cut > 0) {
                long rest = m & (1L << cut) - 1;
                long half = 1L << cut - 1;
                if (rest > half || rest == half && (kept & 1) == 1) kept++;
            }
            // the hidden bit of what is kept counts the exponent up by one
            long bits = ((long) (place + cut - LEAST_PLACE) << 52) + kept;
            return sign | Math.min(bits, INFINITE);
        }

        static long fromWhole(long a) {
            return nearest(a & MINUS, Math.abs(a), 0);
        }

        /** A number of digits, so many of them behind the point. */
        static long decimal(long digits, int places) {
            long power = 1;
            for (int i = 0; i < places; i++) power *= 10;
            return divided(fromWhole(digits), fromWhole(power));
        }

        static int toWhole(long a) {
            if (isNan(a)) return 0;
            int place = place(a);
            long m = place >= 0 ? Long.MAX_VALUE : place < -63 ? 0 : digits(a) >>> -place;
            return (int) (a < 0 ? Math.max(-m, Integer.MIN_VALUE) : Math.min(m, Integer.MAX_VALUE));
        }

        static long negated(long a) {
            return isNan(a) ? NAN : a ^ MINUS;
        }

        static long plus(long a, long b) {
            if (isNan(a) || isNan(b)) return NAN;
            if (isInfinite(a)) return isInfinite(b) && a != b ? NAN : a;
            if (isInfinite(b)) return b;
            // behind the digits of both stand 8 bits more, so that what is cut off the lesser one still rounds right
            int place = Math.max(place(a), place(b));
            long m = jammed(digits(a) << 8, place - place(a));
            long n = jammed(digits(b) << 8, place - place(b));
            long sum = (a < 0 ? -m : m) + (b < 0 ? -n : n);
            if (sum == 0) return a & b & MINUS;
            return nearest(sum & MINUS, Math.abs(sum), place - 8);
        }

        static long times(long a, long b) {
            if (isNan(a) || isNan(b)) return NAN;
            long sign = (a ^ b) & MINUS;
            if (isInfinite(a) || isInfinite(b)) return isZero(a) || isZero(b) ? NAN : sign | INFINITE;
            if (isZero(a) || isZero(b)) return sign;
            long m = digits(a) << lack(a);
            long n = digits(b) << lack(b);
            long low = (m & LOW_HALF) * (n & LOW_HALF);
            long middle = (m >> 27) * (n & LOW_HALF) + (m & LOW_HALF) * (n >> 27) + (low >> 27);
            long high = ((m >> 27) * (n >> 27) << 10) + (middle >> 17);
            boolean lost = (middle & (1 << 17) - 1) != 0 || (low & LOW_HALF) != 0;
            return nearest(sign, high | (lost ? 1 : 0), place(a) - lack(a) + place(b) - lack(b) + 44);
        }

        static long divided(long a, long b) {
            if (isNan(a) || isNan(b)) return NAN;
            long sign = (a ^ b) & MINUS;
            if (isInfinite(a)) return isInfinite(b) ? NAN : sign | INFINITE;
            if (isInfinite(b)) return sign;
            if (isZero(b)) return isZero(a) ? NAN : sign | INFINITE;
            if (isZero(a)) return sign;
            long by = digits(b) << lack(b);
            long rest = digits(a) << lack(a);
            long m = 0;
            for (int i = 0; i <= 6 && by > 0; i++) {
                m = (m << 10) + rest / by;
                rest = rest % by << 10;
            }
            return nearest(sign, m | (rest == 0 ? 0 : 1), place(a) - lack(a) - place(b) + lack(b) - 60);
        }

        static long rest(long a, long b) {
            if (isNan(a) || isNan(b) || isInfinite(a) || isZero(b)) return NAN;
            if (isInfinite(b) || isZero(a)) return a;
            int apart = place(a) - lack(a) - place(b) + lack(b);
            long by = digits(b) << lack(b);
            long m = digits(a) << lack(a);
            if (apart < 0 || by <= 0) return a;
            m %= by;
            for (int left = apart; left > 0; left -= 10) m = (m << Math.min(left, 10)) % by;
            return nearest(a & MINUS, m, place(b) - lack(b));
        }

        /** A number that is in order as the real is; both zeros have the same. */
        private static long order(long a) {
            return a < 0 ? MINUS - a : a;
        }

        static boolean isLess(long a, long b) {
            return !isNan(a) && !isNan(b) && order(a) < order(b);
        }

        static boolean isLike(long a, long b) {
            return !isNan(a) && !isNan(b) && order(a) == order(b);
        }
    }

    /** ROWS by number; their items lie one behind the other in one array, so that a row is no object of its own. */
    static final class Rows {
        static final int MOST = 6000, MOST_ITEMS = 64;

        private int[] starts = new int[64];
        private long[] items = new long[256];
        /** Those made since the text was read. */
        private int held;
        private int made;

        int made() {
            return made;
        }

        void forget() {
            held = 0;
        }

        /** The number of a new row; -1: it would be one too many ever. */
        int make(int size, long first) {
            if (made >= MOST || size < 0 || size > MOST_ITEMS) return -1;
            if (held + 2 > starts.length) starts = Arrays.copyOf(starts, starts.length * 2);
            int from = starts[held];
            if (from + size > items.length) items = Arrays.copyOf(items, items.length * 2);
            for (int i = from; i < from + size; i++) items[i] = first;
            made++;
            held++;
            starts[held] = from + size;
            return held - 1;
        }

        int size(int row) {
            return row >= 0 && row < held ? starts[row + 1] - starts[row] : 0;
        }

        boolean has(int row, long i) {
            return i >= 0 && i < size(row);
        }

        long get(int row, int i) {
            return has(row, i) ? items[starts[row] + i] : 0;
        }

        void set(int row, int i, long value) {
            if (has(row, i)) items[starts[row] + i] = value;
        }
    }

    /** All who have a number as a person, and the marks of the pupils. */
    static final class People {
        static final int MOST = 24, THINGS = 4;
        static final int PUPIL = 0, PARENT = 1, TEACHER = 2, TUTOR = 3, HEAD = 4;
        static final int NO_ROW = -1;
        private static final int MARKS = 0, TABLE = 1, REGISTER = 2, LETTERS = 3;

        private final int[] kinds = new int[MOST];
        private final int[] worths = new int[MOST];
        private final int[] groups = new int[MOST];
        private final int[] marks = new int[MOST * Text.MOST_COURSES];
        private int count;

        void forget() {
            count = 0;
        }

        int howMany() {
            return count;
        }

        boolean has(long p) {
            return p >= 0 && p < count;
        }

        int add(int kind, int worth, int group) {
            if (count >= MOST) return -1;
            kinds[count] = kind;
            worths[count] = worth;
            groups[count] = group;
            for (int c = 0; c < Text.MOST_COURSES; c++) marks[count * Text.MOST_COURSES + c] = NO_ROW;
            count++;
            return count - 1;
        }

        int kindOf(int p) {
            return has(p) ? kinds[p] : -1;
        }

        int worthOf(int p) {
            return has(p) ? worths[p] : 0;
        }

        int groupOf(int p) {
            return has(p) ? groups[p] : NONE;
        }

        boolean isPupil(int p) {
            return kindOf(p) == PUPIL;
        }

        boolean isTeacher(int p) {
            return kindOf(p) >= TEACHER;
        }

        int inGroup(int group) {
            int n = 0;
            for (int p = 0; p < count; p++) {
                if (isPupil(p) && groups[p] == group) n++;
            }
            return n;
        }

        int marksOf(int p, int course) {
            return has(p) && course >= 0 && course < Text.MOST_COURSES ? marks[p * Text.MOST_COURSES + course] : NO_ROW;
        }

        void keepMarks(int p, int course, int row) {
            if (has(p) && course >= 0 && course < Text.MOST_COURSES) marks[p * Text.MOST_COURSES + course] = row;
        }

        static boolean isThing(int thing) {
            return thing >= 0 && thing < THINGS;
        }

        int levelOf(int p, int thing) {
            int tutor = staff(thing) + kin(thing);
            switch (kindOf(p)) {
                case PARENT: return kin(thing);
                case TEACHER: return staff(thing);
                case TUTOR: return tutor;
                case HEAD: return 3 * staff(thing) + tutor + (worthOf(p) > 5 ? 1 : 0);
                default: return member(thing);
            }
        }

        private static int member(int thing) {
            return thing == TABLE ? 1 : 0;
        }

        private static int kin(int thing) {
            return member(thing) + (thing == MARKS || thing == LETTERS ? 1 : 0);
        }

        private static int staff(int thing) {
            return member(thing) + (thing == MARKS || thing == REGISTER ? 2 : 0);
        }
    }

    /** VALUES, each a kind and 64 bits, one upon the other. */
    static final class Values {
        private int[] kinds = new int[256];
        private long[] bits = new long[256];
        private int height;

        int height() {
            return height;
        }

        void roomFor(int more) {
            if (more < 0 || height + more <= kinds.length) return;
            int wanted = Math.max(height + more, kinds.length * 2);
            kinds = Arrays.copyOf(kinds, wanted);
            bits = Arrays.copyOf(bits, wanted);
        }

        void push(int kind, long value) {
            if (height >= kinds.length) return;
            kinds[height] = kind;
            bits[height] = value;
            height++;
        }

        void cutTo(int lower) {
            if (lower >= 0 && lower < height) height = lower;
        }

        /** The kind of the one that lies so far below the top. */
        int kind(int below) {
            return kindAt(height - 1 - below);
        }

        long bits(int below) {
            return bitsAt(height - 1 - below);
        }

        int kindAt(int place) {
            return place >= 0 && place < height ? kinds[place] : Machine.EMPTY;
        }

        long bitsAt(int place) {
            return place >= 0 && place < height ? bits[place] : 0;
        }

        void setAt(int place, int kind, long value) {
            if (place < 0 || place >= height) return;
            kinds[place] = kind;
            bits[place] = value;
        }

        /** One value instead of the n upmost. */
        void replace(int n, int kind, long value) {
            cutTo(height - n);
            push(kind, value);
        }
    }

    /** Does the code of rules. */
    static final class Machine {
        /** The kinds of VALUES, as run() tells them; a ROW's is ROW and its sort. */
        static final int EMPTY = 0, WHOLE = 1, REAL = 2, PERSON = 3, ROW = 4;
        /** The sorts of ROWS. */
        static final int WHOLES = 0, REALS = 1, PERSONS = 2, TEACHERS = 3;
        /** FAILURES. */
        static final int DIVIDE = 1, INDEX = 2, NULL = 3, CAST = 4, SIZE = 5, STORE = 6, EXACT = 7;
        /** What the code is made of; behind some of these stand one or two numbers more. */
        static final int END_RULE = 0, STEP = 1, PUSH_NONE = 2, PUSH_WHOLE = 3, PUSH_REAL = 4, GET = 5, SET = 6,
            SET_ITEM = 7, WORK = 8, COMPARE = 9, NEGATE = 10, ITEM = 11, MAKE = 12, CALL = 13, GIVE = 14, JUMP = 15,
            UNLESS = 16, LOOP = 17, ROUND = 18, RAISE = 19, COPY = 20, TRY = 21, ON = 22, LEAVE = 23, FINISH = 24,
            SIZE_OF = 25, AS_WHOLE = 26, AS_REAL = 27, LACKS = 28, FIND_PERSON = 29, FIND_LEVEL = 30, FIND_MARKS = 31;
        /** What WORK does. */
        static final int PLUS = 0, MINUS = 1, TIMES = 2, OVER = 3, REST = 4;

        private static final int STEPS_SPENT = -20, TOO_DEEP = -21, ROWS_SPENT = -22, FAILURES_SPENT = -23;
        private static final int MOST_DEPTH = 8, MOST_FAILURES = 10000;
        /** In each of the rules in one another a try lies in 11 others at most. */
        private static final int MOST_TRIES = 12 * MOST_DEPTH;
        /** Above the variables of a rule: two for each "for", the parts of a copy, and those of an exp. */
        private static final int MOST_PARTS = 64;
        /** Far more than what 3000 STEPS can do. */
        private static final int MOST_TURNS = 4000000;
        private static final int UNDER_WAY = 100;
        /** Where a try is. */
        private static final int IN_BLOCK = 0, IN_ON = 1, IN_ALWAYS = 2;
        /** What goes on behind "always": nothing (0), a FAILURE, or a give (and the kind of its VALUE). */
        private static final int NOTHING = 0, GIVING = 8;

        private final People people;
        private final Rows rows;
        private final Values values = new Values();
        private Text text;
        private int pc;
        private int depth;
        private final int[] bases = new int[MOST_DEPTH];
        private final int[] backs = new int[MOST_DEPTH];
        private int tries;
        private final int[] tryChain = new int[MOST_TRIES];
        private final int[] tryState = new int[MOST_TRIES];
        private final int[] tryDepth = new int[MOST_TRIES];
        private final int[] tryHeight = new int[MOST_TRIES];
        private final int[] pending = new int[MOST_TRIES];
        private final long[] pendingBits = new long[MOST_TRIES];
        private int failures;
        private int limit;
        private int steps;
        /** The FAILURE that is on its way to what catches it; 0: none is. */
        private int failing;
        /** How the RUN ended; UNDER_WAY: it has not. */
        private int result;
        private long given;

        Machine(People people, Rows rows) {
            this.people = people;
            this.rows = rows;
        }

        void open(Text text) {
            this.text = text;
        }

        int failures() {
            return failures;
        }

        int stepsDone() {
            return steps;
        }

        /** The bits of what was given. */
        long given() {
            return given;
        }

        /** A RUN of a rule: how it ends, as run() tells it. */
        int begin(int rule, int most, int a, int b, int c, int d) {
            steps = 0;
            limit = most;
            given = 0;
            if (failures >= MOST_FAILURES) return FAILURES_SPENT;
            result = UNDER_WAY;
            failing = 0;
            tries = 0;
            depth = -1;
            values.cutTo(0);
            int names = text.has(Text.RULE, rule) ? text.ruleNames[rule] : 0;
            for (int i = 0; i < names; i++) values.push(WHOLE, i == 0 ? a : i == 1 ? b : i == 2 ? c : d);
            enter(rule, names);
            for (int turns = 0; turns < MOST_TURNS && result == UNDER_WAY; turns++) {
                if (failing == 0) perform(operand());
                else passOn();
            }
            if (result == UNDER_WAY) end(STEPS_SPENT, 0);
            return result;
        }

        private void end(int how, long bits) {
            result = how;
            given = bits;
        }

        private int operand() {
            int x = text.codeAt(pc);
            pc++;
            return x;
        }

        private void perform(int op) {
            switch (op) {
                case STEP: step(); break;
                case PUSH_NONE: values.push(EMPTY, 0); break;
                case PUSH_WHOLE: values.push(WHOLE, operand()); break;
                case PUSH_REAL: pushReal(); break;
                case GET: get(operand()); break;
                case SET: set(operand()); break;
                case SET_ITEM: setItem(variable(operand())); break;
                case WORK: work(operand()); break;
                case COMPARE: compare(operand()); break;
                case NEGATE: negate(); break;
                case ITEM: item(); break;
                case MAKE: makeRow(operand()); break;
                case CALL: call(); break;
                case GIVE: give(values.kind(0), values.bits(0)); break;
                case JUMP: pc = operand(); break;
                case UNLESS: unless(operand()); break;
                case LOOP: loop(); break;
                case ROUND: round(); break;
                case RAISE: fail(operand()); break;
                case COPY: copy(); break;
                case TRY: enterTry(operand()); break;
                case LEAVE: leaveTry(); break;
                case FINISH: finishTry(); break;
                case SIZE_OF: sizeOf(); break;
                case AS_WHOLE: asWhole(); break;
                case AS_REAL: asReal(); break;
                case LACKS: values.replace(1, WHOLE, values.kind(0) == EMPTY ? 1 : 0); break;
                case FIND_PERSON: findPerson(); break;
                case FIND_LEVEL: findLevel(); break;
                case FIND_MARKS: findMarks(); break;
                default: give(EMPTY, 0); break;
            }
        }

        private boolean step() {
            if (steps >= limit) {
                end(STEPS_SPENT, 0);
                return false;
            }
            steps++;
            return true;
        }

        // ---- FAILURES, and what catches them

        private void fail(int failure) {
            if (failures >= MOST_FAILURES) {
                end(FAILURES_SPENT, 0);
                return;
            }
            failures++;
            failing = failure;
        }

        /** Whether it is a FAILURE (0 is none), which is under way then. */
        private boolean fails(int failure) {
            if (failure == 0) return false;
            fail(failure);
            return true;
        }

        /** Passes the FAILURE on to the innermost try that it is in. */
        private void passOn() {
            int failure = failing;
            failing = 0;
            for (; tries > 0; tries--) {
                int t = tries - 1;
                if (tryState[t] == IN_ALWAYS) continue;
                depth = tryDepth[t];
                values.cutTo(tryHeight[t]);
                int block = tryState[t] == IN_BLOCK ? blockOn(failure, t) : -1;
                if (block >= 0) {
                    tryState[t] = IN_ON;
                    pc = block;
                } else {
                    enterAlways(t, failure, 0);
                }
                return;
            }
            end(-10 - failure, 0);
        }

        /** Where the block on a FAILURE begins; -1: there is none. */
        private int blockOn(int failure, int t) {
            int at = tryChain[t];
            for (int n = 0; n < EXACT && text.codeAt(at) == ON; n++) {
                if (text.codeAt(at + 1) == failure) return at + 3;
                at = text.codeAt(at + 2);
            }
            return -1;
        }

        private void enterAlways(int t, int what, long bits) {
            int at = tryChain[t];
            for (int n = 0; n < EXACT && text.codeAt(at) == ON; n++) at = text.codeAt(at + 2);
            tryState[t] = IN_ALWAYS;
            pending[t] = what;
            pendingBits[t] = bits;
            pc = at;
        }

        private void enterTry(int chain) {
            if (tries >= MOST_TRIES) return;
            tryChain[tries] = chain;
            tryState[tries] = IN_BLOCK;
            tryDepth[tries] = depth;
            tryHeight[tries] = values.height();
            tries++;
        }

        private void leaveTry() {
            if (tries > 0) enterAlways(tries - 1, NOTHING, 0);
        }

        private void finishTry() {
            if (tries <= 0) return;
            tries--;
            int what = pending[tries];
            if (what >= GIVING) give(what - GIVING, pendingBits[tries]);
            else failing = what;
        }

        // ---- rules in one another

        /** Begins a rule whose names' VALUES are the upmost ones. */
        private void enter(int rule, int names) {
            if (!text.has(Text.RULE, rule) || depth + 1 >= MOST_DEPTH) return;
            depth++;
            bases[depth] = values.height() - names;
            backs[depth] = pc;
            pc = text.ruleStart[rule];
            int others = text.ruleSlots[rule] - names;
            values.roomFor(others + MOST_PARTS);
            for (int i = 0; i < others; i++) values.push(EMPTY, 0);
        }

        private void call() {
            int rule = operand();
            int names = operand();
            if (!step()) return;
            if (depth + 1 >= MOST_DEPTH) end(TOO_DEEP, 0);
            else enter(rule, names);
        }

        private void give(int kind, long bits) {
            for (; tries > 0 && tryDepth[tries - 1] == depth; tries--) {
                int t = tries - 1;
                if (tryState[t] == IN_ALWAYS) continue;
                values.cutTo(tryHeight[t]);
                enterAlways(t, GIVING + kind, bits);
                return;
            }
            if (depth <= 0) {
                end(kind, bits);
                return;
            }
            values.cutTo(bases[depth]);
            values.push(kind, bits);
            pc = backs[depth];
            depth--;
        }

        // ---- what lacks for VALUES to be worked: a FAILURE, or 0

        private int lackOfWhole(int below) {
            int kind = values.kind(below);
            return kind == EMPTY ? NULL : kind != WHOLE ? CAST : 0;
        }

        private int lackOfNumber(int below) {
            int kind = values.kind(below);
            return kind == EMPTY ? NULL : kind != WHOLE && kind != REAL ? CAST : 0;
        }

        private static int lackOfRow(int kind) {
            return kind == EMPTY ? NULL : kind < ROW ? CAST : 0;
        }

        private int lackOfItem(long row, long i) {
            return rows.has((int) row, i) ? 0 : INDEX;
        }

        // ---- variables and items

        /** Where a variable of the rule under way lies. */
        private int variable(int slot) {
            return depth >= 0 && depth < MOST_DEPTH ? bases[depth] + slot : -1;
        }

        private void pushReal() {
            long high = operand();
            values.push(REAL, high << 32 | operand() & 0xffffffffL);
        }

        private void get(int slot) {
            int at = variable(slot);
            values.push(values.kindAt(at), values.bitsAt(at));
        }

        private void set(int slot) {
            values.setAt(variable(slot), values.kind(0), values.bits(0));
            values.cutTo(values.height() - 1);
        }

        private void setItem(int at) {
            int kind = values.kindAt(at);
            int row = (int) values.bitsAt(at);
            if (fails(lackOfWhole(1)) || fails(lackOfRow(kind))) return;
            int sort = kind - ROW;
            if (sort == WHOLES && fails(lackOfWhole(0)) || sort == REALS && fails(lackOfNumber(0))) return;
            if (fails(lackOfItem(row, values.bits(1))) || sort >= PERSONS && fails(lackOfPerson(sort))) return;
            long item = sort == REALS ? real(0) : values.kind(0) == EMPTY ? NONE : values.bits(0);
            rows.set(row, (int) values.bits(1), item);
            values.cutTo(values.height() - 2);
        }

        /** What lacks for the upmost VALUE to be an item of a ROW of PERSONS or TEACHERS. */
        private int lackOfPerson(int sort) {
            int kind = values.kind(0);
            if (kind == EMPTY) return 0;
            if (kind != PERSON) return CAST;
            return sort == TEACHERS && !people.isTeacher((int) values.bits(0)) ? STORE : 0;
        }

        private void item() {
            if (fails(lackOfWhole(0)) || fails(lackOfRow(values.kind(1)))) return;
            if (fails(lackOfItem(values.bits(1), values.bits(0)))) return;
            int sort = values.kind(1) - ROW;
            long bits = rows.get((int) values.bits(1), (int) values.bits(0));
            int kind = sort == WHOLES ? WHOLE : sort == REALS ? REAL : bits == NONE ? EMPTY : PERSON;
            values.replace(2, kind, bits);
        }

        private void makeRow(int sort) {
            if (fails(lackOfWhole(0))) return;
            long size = values.bits(0);
            if (size < 0 || size > Rows.MOST_ITEMS) {
                fail(SIZE);
                return;
            }
            int row = rows.make((int) size, sort >= PERSONS ? NONE : 0);
            if (row < 0) end(ROWS_SPENT, 0);
            else values.replace(1, ROW + sort, row);
        }

        private void sizeOf() {
            if (fails(lackOfRow(values.kind(0)))) return;
            values.replace(1, WHOLE, rows.size((int) values.bits(0)));
        }

        private void copy() {
            if (fails(lackOfWhole(3)) || fails(lackOfWhole(1)) || fails(lackOfWhole(0)) || fails(lackOfCopy())) return;
            int from = (int) values.bits(4);
            int to = (int) values.bits(2);
            int i = (int) values.bits(3);
            int j = (int) values.bits(1);
            int n = (int) values.bits(0);
            boolean teachersOnly = values.kind(2) == ROW + TEACHERS && values.kind(4) != ROW + TEACHERS;
            // in one and the same row what moves up goes from its end, so that nothing is lost that is still to go
            boolean backwards = from == to && i < j;
            for (int k = 0; k < n; k++) {
                int at = backwards ? n - 1 - k : k;
                long item = rows.get(from, i + at);
                if (teachersOnly && item != NONE && !people.isTeacher((int) item)) {
                    fail(STORE);
                    return;
                }
                rows.set(to, j + at, item);
            }
            values.cutTo(values.height() - 5);
        }

        private int lackOfCopy() {
            int from = values.kind(4);
            int to = values.kind(2);
            if (from == EMPTY || to == EMPTY) return NULL;
            if (from < ROW || to < ROW || Math.min(from, ROW + PERSONS) != Math.min(to, ROW + PERSONS)) return STORE;
            long i = values.bits(3);
            long j = values.bits(1);
            long n = values.bits(0);
            boolean lies = i >= 0 && j >= 0 && n >= 0
                && i + n <= rows.size((int) values.bits(4)) && j + n <= rows.size((int) values.bits(2));
            return lies ? 0 : INDEX;
        }

        // ---- numbers

        /** A VALUE that is a number, as a REAL. */
        private long real(int below) {
            return values.kind(below) == REAL ? values.bits(below) : Reals.fromWhole(values.bits(below));
        }

        /** Whether the two upmost VALUES are no numbers, and that FAILS. */
        private boolean failsAsNumbers() {
            return fails(lackOfNumber(1)) || fails(lackOfNumber(0));
        }

        private boolean isRealWork() {
            return values.kind(1) == REAL || values.kind(0) == REAL;
        }

        private void work(int op) {
            if (failsAsNumbers()) return;
            if (!isRealWork()) {
                workWholes(op, values.bits(1), values.bits(0));
                return;
            }
            long a = real(1);
            long b = real(0);
            long c;
            if (op == PLUS) c = Reals.plus(a, b);
            else if (op == MINUS) c = Reals.plus(a, Reals.negated(b));
            else if (op == TIMES) c = Reals.times(a, b);
            else c = op == OVER ? Reals.divided(a, b) : Reals.rest(a, b);
            values.replace(2, REAL, c);
        }

        private void workWholes(int op, long a, long b) {
            if (b == 0 && (op == OVER || op == REST)) {
                fail(DIVIDE);
                return;
            }
            long c;
            if (op == PLUS) c = a + b;
            else if (op == MINUS) c = a - b;
            else if (op == TIMES) c = a * b;
            else if (b == 0) c = 0;
            else c = op == OVER ? (int) (a / b) : a % b;
            replaceExactly(2, c);
        }

        private void replaceExactly(int n, long whole) {
            if (whole != (int) whole) fail(EXACT);
            else values.replace(n, WHOLE, whole);
        }

        private void negate() {
            if (fails(lackOfNumber(0))) return;
            if (values.kind(0) == REAL) values.replace(1, REAL, Reals.negated(values.bits(0)));
            else replaceExactly(1, -values.bits(0));
        }

        private void compare(int op) {
            if (failsAsNumbers()) return;
            long a = values.bits(1);
            long b = values.bits(0);
            boolean holds;
            if (isRealWork()) {
                holds = op == 0 ? Reals.isLess(real(1), real(0)) : op == 1 ? Reals.isLess(real(0), real(1))
                    : Reals.isLike(real(1), real(0));
            } else {
                holds = op == 0 ? a < b : op == 1 ? a > b : a == b;
            }
            values.replace(2, WHOLE, holds ? 1 : 0);
        }

        private void asWhole() {
            if (fails(lackOfNumber(0))) return;
            if (values.kind(0) == REAL) values.replace(1, WHOLE, Reals.toWhole(values.bits(0)));
        }

        private void asReal() {
            if (fails(lackOfNumber(0))) return;
            values.replace(1, REAL, real(0));
        }

        // ---- people

        private void findPerson() {
            if (fails(lackOfWhole(0))) return;
            if (people.has(values.bits(0))) values.replace(1, PERSON, values.bits(0));
            else fail(INDEX);
        }

        private void findLevel() {
            int kind = values.kind(1);
            if (fails(lackOfWhole(0)) || fails(kind == EMPTY ? NULL : kind != PERSON ? CAST : 0)) return;
            int thing = (int) values.bits(0);
            if (People.isThing(thing)) values.replace(2, WHOLE, people.levelOf((int) values.bits(1), thing));
            else fail(INDEX);
        }

        private void findMarks() {
            if (fails(lackOfWhole(1)) || fails(lackOfWhole(0))) return;
            int p = (int) values.bits(1);
            int course = (int) values.bits(0);
            if (!people.isPupil(p) || !text.has(Text.COURSE, course)) {
                fail(INDEX);
                return;
            }
            int row = people.marksOf(p, course);
            values.replace(2, row < 0 ? EMPTY : ROW + WHOLES, Math.max(row, 0));
        }

        // ---- if and for

        private void unless(int elsewhere) {
            if (fails(lackOfWhole(0))) return;
            if (values.bits(0) == 0) pc = elsewhere;
            values.cutTo(values.height() - 1);
        }

        /** The bound lies on top already; the number of the next round comes upon it. */
        private void loop() {
            if (!fails(lackOfWhole(0))) values.push(WHOLE, 0);
        }

        private void round() {
            int slot = operand();
            int end = operand();
            long i = values.bits(0);
            if (i >= values.bits(1)) {
                values.cutTo(values.height() - 2);
                pc = end;
            } else if (step()) {
                values.setAt(variable(slot), WHOLE, i);
                values.replace(1, WHOLE, i + 1);
            }
        }
    }

    /** The week, what is asked of it, and the SEARCH for the best table. */
    static final class Timetable {
        static final int DAYS = 5, MOST_DAILY = 4, MOST_PERIODS = DAYS * MOST_DAILY;
        /** A turn looks at a NODE or goes back behind one. */
        private static final int MOST_TURNS = 2 * MOST_NODES + Text.MOST_UNITS + 1;

        private Text text;
        private int daily = MOST_DAILY;
        /** The PERIODS of each of staff, a bit each. */
        private final int[] barred = new int[Text.MOST_STAFF];
        private final int[] wishes = new int[Text.MOST_LESSONS * MOST_PERIODS];
        /** The least WISHES of all units from one on, together. */
        private final int[] least = new int[Text.MOST_UNITS + 1];
        /** The PLACE of each unit that is looked at next: its PERIOD times the rooms, and its room. */
        private final int[] next = new int[Text.MOST_UNITS];
        /** What is taken by the units placed so far: PERIODS of each room, group and staff, days of each lesson. */
        private final int[] roomTaken = new int[Text.MOST_ROOMS];
        private final int[] groupTaken = new int[Text.MOST_GROUPS];
        private final int[] staffTaken = new int[Text.MOST_STAFF];
        private final int[] daysTaken = new int[Text.MOST_LESSONS];
        private int weight;
        private final int[] best = new int[Text.MOST_UNITS];
        private int bestWeight;
        private boolean found;
        private boolean searched;
        private int nodes;

        void open(Text text) {
            this.text = text;
            forget();
        }

        private void forget() {
            Arrays.fill(barred, 0);
            Arrays.fill(wishes, 0);
            drop();
        }

        private void drop() {
            found = false;
            searched = false;
        }

        int daily() {
            return daily;
        }

        void setDaily(int n) {
            daily = n;
            forget();
        }

        private int periods() {
            return DAYS * daily;
        }

        boolean hasPeriod(int period) {
            return period >= 0 && period < periods();
        }

        boolean isBarred(int staff, int period) {
            return staff >= 0 && staff < Text.MOST_STAFF && (barred[staff] >> period & 1) == 1;
        }

        void setBarred(int staff, int period, boolean on) {
            drop();
            if (staff < 0 || staff >= Text.MOST_STAFF) return;
            barred[staff] = on ? barred[staff] | 1 << period : barred[staff] & ~(1 << period);
        }

        private int wishOf(int lesson, int period) {
            int at = lesson * MOST_PERIODS + period;
            return at >= 0 && at < wishes.length ? wishes[at] : 0;
        }

        int setWish(int lesson, int period, int wish) {
            int old = wishOf(lesson, period);
            drop();
            int at = lesson * MOST_PERIODS + period;
            if (at >= 0 && at < wishes.length) wishes[at] = wish;
            return old;
        }

        boolean isFound() {
            return found;
        }

        boolean isSearched() {
            return searched;
        }

        int bestWeight() {
            return bestWeight;
        }

        int nodes() {
            return nodes;
        }

        int periodOf(int unit) {
            return unit >= 0 && unit < best.length ? period(best[unit]) : -1;
        }

        int roomOf(int unit) {
            return unit >= 0 && unit < best.length ? room(best[unit]) : -1;
        }

        private int period(int place) {
            int rooms = text.howMany(Text.ROOM);
            return rooms > 0 ? place / rooms : 0;
        }

        private int room(int place) {
            int rooms = text.howMany(Text.ROOM);
            return rooms > 0 ? place % rooms : 0;
        }

        private int day(int period) {
            return daily > 0 ? period / daily : 0;
        }

        /** The SEARCH with so many NODES: how it ended, as build() tells it. */
        int search(int most) {
            clear();
            int places = periods() * text.howMany(Text.ROOM);
            int unit = 0;
            if (text.units == 0) keep();
            boolean spent = false;
            for (int turns = 0; turns < MOST_TURNS && unit >= 0 && unit < text.units && !spent; turns++) {
                if (next[unit] >= places) {
                    unit--;
                    if (unit >= 0) takeBack(unit);
                } else if (nodes >= most) {
                    spent = true;
                } else {
                    unit = look(unit);
                }
            }
            return (spent ? 1 : 0) + (found ? 0 : 2);
        }

        private void clear() {
            drop();
            searched = true;
            nodes = 0;
            weight = 0;
            next[0] = 0;
            Arrays.fill(roomTaken, 0);
            Arrays.fill(groupTaken, 0);
            Arrays.fill(staffTaken, 0);
            Arrays.fill(daysTaken, 0);
            least[text.units] = 0;
            for (int u = text.units - 1; u >= 0; u--) least[u] = least[u + 1] + leastWish(text.unitLesson[u]);
        }

        private int leastWish(int lesson) {
            int least = wishOf(lesson, 0);
            for (int p = 1; p < periods(); p++) least = Math.min(least, wishOf(lesson, p));
            return least;
        }

        /** Looks at a unit's next PLACE: the unit whose PLACE is looked at then. */
        private int look(int unit) {
            int place = next[unit];
            next[unit]++;
            nodes++;
            int wish = wishOf(text.unitLesson[unit], period(place));
            if (!fits(unit, place) || found && weight + wish + least[unit + 1] >= bestWeight) return unit;
            take(unit, place, true);
            if (unit + 1 < text.units) {
                next[unit + 1] = 0;
                return unit + 1;
            }
            keep();
            takeBack(unit);
            return unit;
        }

        private boolean fits(int unit, int place) {
            int lesson = text.unitLesson[unit];
            int room = room(place);
            int period = period(place);
            int group = text.lessonGroup[lesson];
            int staff = text.lessonStaff[lesson];
            int taken = roomTaken[room] | groupTaken[group] | staffTaken[staff] | barred[staff];
            return text.roomPlaces[room] >= text.groupSize[group] && (taken >> period & 1) == 0
                && (daysTaken[lesson] >> day(period) & 1) == 0;
        }

        private void takeBack(int unit) {
            take(unit, next[unit] - 1, false);
        }

        private void take(int unit, int place, boolean on) {
            int lesson = text.unitLesson[unit];
            int period = period(place);
            int bit = 1 << period;
            int wish = wishOf(lesson, period);
            weight += on ? wish : -wish;
            roomTaken[room(place)] ^= bit;
            groupTaken[text.lessonGroup[lesson]] ^= bit;
            staffTaken[text.lessonStaff[lesson]] ^= bit;
            daysTaken[lesson] ^= 1 << day(period);
        }

        private void keep() {
            found = true;
            bestWeight = weight;
            for (int u = 0; u < text.units; u++) best[u] = next[u] - 1;
        }
    }

    /** Who takes the units of those who are not there. */
    static final class Cover {
        /** Units at one PERIOD are in rooms of their own. */
        private static final int MOST_OPEN = Text.MOST_ROOMS;

        private final Timetable timetable;
        private Text text;
        /** The PERIODS of each of staff, a bit each. */
        private final int[] absences = new int[Text.MOST_STAFF];
        private final int[] covering = new int[Text.MOST_UNITS];
        private boolean filled;
        private final int[] open = new int[MOST_OPEN];
        private int openCount;
        /** The way that is tried, and the best one so far, one of staff for each OPEN unit. */
        private final int[] tried = new int[MOST_OPEN];
        private final int[] best = new int[MOST_OPEN];
        private int bestCount;
        private int period;

        Cover(Timetable timetable) {
            this.timetable = timetable;
        }

        void open(Text text) {
            this.text = text;
            forget();
        }

        void forget() {
            Arrays.fill(absences, 0);
            uncover();
        }

        void uncover() {
            filled = false;
        }

        boolean isFilled() {
            return filled;
        }

        int staffOf(int unit) {
            return unit >= 0 && unit < covering.length ? covering[unit] : NONE;
        }

        void setAbsent(int staff, int period, boolean on) {
            if (staff < 0 || staff >= absences.length) return;
            absences[staff] = on ? absences[staff] | 1 << period : absences[staff] & ~(1 << period);
        }

        private boolean isAbsent(int staff) {
            return staff >= 0 && staff < absences.length && (absences[staff] >> period & 1) == 1;
        }

        private int staffOfLesson(int unit) {
            return text.lessonStaff[text.unitLesson[unit]];
        }

        /** COVER of a PERIOD: how many OPEN units get nobody. */
        int fill(int period) {
            this.period = period;
            filled = true;
            openCount = 0;
            int busy = 0;
            for (int u = 0; u < text.units; u++) {
                covering[u] = NONE;
                if (timetable.periodOf(u) != period) continue;
                busy |= 1 << staffOfLesson(u);
                if (isAbsent(staffOfLesson(u)) && openCount < MOST_OPEN) {
                    open[openCount] = u;
                    openCount++;
                }
            }
            bestCount = -1;
            tryFrom(0, busy, 0);
            for (int i = 0; i < openCount; i++) covering[open[i]] = best[i];
            return openCount - bestCount;
        }

        /** Tries the ways in the order of their rows of numbers: only one with more of staff than all before is better. */
        private void tryFrom(int i, int busy, int count) {
            if (count + openCount - i <= bestCount) return;
            if (i >= openCount || i >= MOST_OPEN) {
                bestCount = count;
                for (int k = 0; k < openCount; k++) best[k] = tried[k];
                return;
            }
            int subject = text.lessonSubject[text.unitLesson[open[i]]];
            for (int s = 0; s < text.howMany(Text.STAFF); s++) {
                if ((busy >> s & 1) == 1 || !text.teaches(s, subject) || isAbsent(s) || timetable.isBarred(s, period)) continue;
                tried[i] = s;
                tryFrom(i + 1, busy | 1 << s, count + 1);
            }
            tried[i] = NONE;
            tryFrom(i + 1, busy, count);
        }
    }

    /** What pupils ask for, and where they are placed. */
    static final class Choices {
        private static final int COURSES = Text.MOST_COURSES;

        private final People people;
        private Text text;
        /** The courses of each pupil, the best first. */
        private final int[] ranked = new int[People.MOST * COURSES];
        private final int[] rankedCount = new int[People.MOST];
        private final int[] tickets = new int[People.MOST * COURSES];
        private final int[] places = new int[People.MOST];
        private boolean matched;
        /** The place in each pupil's row of what it asks now. */
        private final int[] asking = new int[People.MOST];
        private final int[] left = new int[COURSES];
        private final boolean[] inRing = new boolean[People.MOST];

        Choices(People people) {
            this.people = people;
        }

        void open(Text text) {
            this.text = text;
            Arrays.fill(rankedCount, 0);
            Arrays.fill(tickets, 0);
            Arrays.fill(places, NONE);
            matched = false;
        }

        /** The place of a course in a pupil's row, from 0 on; -1: it is not ranked. */
        int rankOf(int p, int course) {
            if (!people.has(p)) return -1;
            for (int r = 0; r < rankedCount[p]; r++) {
                if (courseAt(p, r) == course) return r;
            }
            return -1;
        }

        private int courseAt(int p, int r) {
            return p >= 0 && p < People.MOST && r >= 0 && r < rankedCount[p] ? ranked[p * COURSES + r] : -1;
        }

        int rank(int p, int course) {
            if (!people.has(p) || rankedCount[p] >= COURSES) return 0;
            ranked[p * COURSES + rankedCount[p]] = course;
            rankedCount[p]++;
            return rankedCount[p];
        }

        int draw(int seed) {
            int pupils = 0;
            for (int p = 0; p < people.howMany(); p++) {
                if (!people.isPupil(p)) continue;
                pupils++;
                for (int c = 0; c < COURSES; c++) tickets[p * COURSES + c] = drawn(seed, p, c);
            }
            return pupils;
        }

        private static int drawn(int seed, int p, int course) {
            int h = seed ^ (16 * p + course) * 0x9E3779B1;
            h = (h ^ h >>> 15) * 0x85EBCA77;
            return h ^ h >>> 13;
        }

        int ticketOf(int p, int course) {
            return p >= 0 && p < People.MOST && isCourse(course) ? tickets[p * COURSES + course] : 0;
        }

        private static boolean isCourse(int course) {
            return course >= 0 && course < COURSES;
        }

        private boolean hasPlaces(int course) {
            return isCourse(course) && left[course] > 0;
        }

        /** Whether a course takes one pupil rather than another. */
        private boolean isAhead(int p, int other, int course) {
            int mine = ticketOf(p, course);
            int others = ticketOf(other, course);
            return mine != others ? mine < others : p < other;
        }

        boolean isMatched() {
            return matched;
        }

        int courseOf(int p) {
            return people.has(p) ? places[p] : NONE;
        }

        private void begin() {
            matched = true;
            Arrays.fill(places, NONE);
            Arrays.fill(asking, 0);
            countLeft();
        }

        private void countLeft() {
            for (int c = 0; c < text.howMany(Text.COURSE); c++) left[c] = text.coursePlaces[c];
            for (int p = 0; p < people.howMany(); p++) {
                if (isCourse(places[p])) left[places[p]]--;
            }
        }

        private void settle(int p, int course) {
            if (!isCourse(course)) return;
            places[p] = course;
            left[course]--;
        }

        private int placedCount() {
            int n = 0;
            for (int p = 0; p < people.howMany(); p++) {
                if (places[p] != NONE) n++;
            }
            return n;
        }

        // ---- offers

        int offers() {
            begin();
            for (int n = 0; n < People.MOST * COURSES; n++) {
                int p = firstAsking();
                if (p < 0) break;
                ask(p, courseAt(p, asking[p]));
                asking[p]++;
            }
            return placedCount();
        }

        private int firstAsking() {
            for (int p = 0; p < people.howMany(); p++) {
                if (places[p] == NONE && asking[p] < rankedCount[p]) return p;
            }
            return -1;
        }

        private void ask(int p, int course) {
            if (hasPlaces(course)) {
                settle(p, course);
                return;
            }
            int last = lastIn(course);
            if (last < 0 || !isAhead(p, last, course)) return;
            places[last] = NONE;
            places[p] = course;
        }

        /** The one placed in a course whom it takes least gladly. */
        private int lastIn(int course) {
            int last = -1;
            for (int p = 0; p < people.howMany(); p++) {
                if (places[p] == course && (last < 0 || isAhead(last, p, course))) last = p;
            }
            return last;
        }

        // ---- trades

        int trades() {
            begin();
            for (int n = 0; n <= People.MOST; n++) {
                pointPupils();
                if (!closeRings()) break;
            }
            return placedCount();
        }

        /** Each pupil not yet placed points to its best course with places left; behind its row it is away. */
        private void pointPupils() {
            for (int p = 0; p < people.howMany(); p++) {
                for (int n = 0; n < COURSES && isWaiting(p) && !hasPlaces(courseAt(p, asking[p])); n++) asking[p]++;
            }
        }

        private boolean isWaiting(int p) {
            return places[p] == NONE && asking[p] < rankedCount[p];
        }

        private boolean closeRings() {
            boolean any = false;
            for (int p = 0; p < people.howMany(); p++) {
                inRing[p] = isWaiting(p) && comesBack(p);
                any = any || inRing[p];
            }
            for (int p = 0; p < people.howMany(); p++) {
                if (inRing[p]) settle(p, courseAt(p, asking[p]));
            }
            return any;
        }

        private boolean comesBack(int p) {
            int at = p;
            for (int n = 0; n < People.MOST && at >= 0; n++) {
                at = firstWaiting(courseAt(at, asking[at]));
                if (at == p) return true;
            }
            return false;
        }

        /** The pupil to whom a course points. */
        private int firstWaiting(int course) {
            int first = -1;
            for (int p = 0; p < people.howMany(); p++) {
                if (isWaiting(p) && (first < 0 || isAhead(p, first, course))) first = p;
            }
            return first;
        }

        // ---- what stands

        /** 0, or 1 and 100 times the first pupil who wants what it could have, and that course. */
        int firstEnvy() {
            countLeft();
            for (int p = 0; p < people.howMany(); p++) {
                for (int c = 0; c < text.howMany(Text.COURSE); c++) {
                    if (wants(p, c) && couldHave(p, c)) return 1 + 100 * p + c;
                }
            }
            return 0;
        }

        private boolean wants(int p, int course) {
            int rank = rankOf(p, course);
            return rank >= 0 && (places[p] == NONE || rank < rankOf(p, places[p]));
        }

        private boolean couldHave(int p, int course) {
            int last = lastIn(course);
            return hasPlaces(course) || last >= 0 && isAhead(p, last, course);
        }
    }
}
