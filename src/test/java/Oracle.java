import java.util.ArrayList;
import java.util.Arrays;
import java.util.HashMap;
import java.util.HashSet;
import java.util.LinkedHashSet;
import java.util.List;
import java.util.Map;
import java.util.Set;

/**
 * The document once more, built in another way (lists, trees that are walked, real doubles, Java's own
 * exceptions), so that the class can be compared with it over random calls.
 */
final class Oracle {
    static final int BAD = -1, NO = -2, FULL = -3, NONE = -9;

    // ======== 1 the text

    static final class Fault extends RuntimeException {
        private static final long serialVersionUID = 1;
        final int place;

        Fault(int place) {
            super(null, null, false, false);
            this.place = place;
        }
    }

    record Token(char kind, String text, int place) {
        boolean is(String s) {
            return (kind == 'w' || kind == 's') && text.equals(s);
        }
    }

    static final Set<String> RESERVED = new HashSet<>(Arrays.asList(("subject room staff group lesson course rule teacher "
        + "tutor head if else for to try on always raise give copy divide index null cast size store exact none row reals "
        + "people teachers whole real lacks person level marks").split(" ")));
    static final List<String> FAILS = Arrays.asList("?", "divide", "index", "null", "cast", "size", "store", "exact");
    static final List<String> ONE = Arrays.asList("row", "reals", "people", "teachers", "size", "whole", "real", "lacks", "person");
    static final List<String> TWO = Arrays.asList("level", "marks");

    /** The tokens up to the first that is none; kind: w, n, r, s, e (the end), x (no token). */
    static List<Token> tokens(String t) {
        List<Token> all = new ArrayList<>();
        int i = 0;
        while (true) {
            while (i < t.length() && (t.charAt(i) == ' ' || t.charAt(i) == '\n')) i++;
            if (i == t.length()) {
                all.add(new Token('e', "", i));
                return all;
            }
            java.util.regex.Matcher m = java.util.regex.Pattern
                .compile("([a-z][a-z0-9]*)|([0-9]+\\.[0-9]+)|([0-9]+)|([;:,=+\\-*/%<>()\\[\\]{}])").matcher(t);
            m.region(i, t.length());
            if (!m.lookingAt()) {
                all.add(new Token('x', "", i));
                return all;
            }
            String s = m.group();
            char kind = m.group(1) != null ? 'w' : m.group(2) != null ? 'r' : m.group(3) != null ? 'n' : 's';
            boolean tooLong = kind == 'w' && s.length() > 8 || kind == 'n' && s.length() > 6
                || kind == 'r' && (s.indexOf('.') > 6 || s.length() - s.indexOf('.') - 1 > 4);
            all.add(new Token(tooLong ? 'x' : kind, s, i));
            if (tooLong) return all;
            i += s.length();
        }
    }

    static final class Staff {
        int kind;
        Set<Integer> subjects = new LinkedHashSet<>();
    }

    static final class Rule {
        List<String> names = new ArrayList<>();
        Set<String> variables = new HashSet<>();
        List<Act> block;
    }

    static final class School {
        List<String> subjects = new ArrayList<>(), rooms = new ArrayList<>(), staffs = new ArrayList<>(),
            groups = new ArrayList<>(), lessons = new ArrayList<>(), courses = new ArrayList<>(), rules = new ArrayList<>();
        List<Integer> roomPlaces = new ArrayList<>(), groupSize = new ArrayList<>(), coursePlaces = new ArrayList<>();
        List<Staff> staff = new ArrayList<>();
        List<int[]> lesson = new ArrayList<>();
        List<Integer> unitLesson = new ArrayList<>();
        List<Rule> rule = new ArrayList<>();
        int nodes;
    }

    interface Exp {
        Object eval(Frame f);
    }

    interface Act {
        void act(Frame f);
    }

    static final class Frame {
        Map<String, Object> variables = new HashMap<>();
        int depth;
    }

    final class Parser {
        final List<Token> tokens;
        int at;
        School s = new School();
        Rule rule;
        int expNodes;
        final List<Runnable> late = new ArrayList<>();

        Parser(String text) {
            tokens = tokens(text);
        }

        Token now() {
            return tokens.get(at);
        }

        Fault fault() {
            return new Fault(now().place);
        }

        boolean is(String x) {
            return now().is(x);
        }

        void want(String x) {
            if (!is(x)) throw fault();
            at++;
        }

        String name() {
            if (now().kind != 'w' || RESERVED.contains(now().text)) throw fault();
            return tokens.get(at++).text;
        }

        String newName(List<String> told, int most) {
            Token t = now();
            String n = name();
            if (told.contains(n) || told.size() == most) throw new Fault(t.place);
            told.add(n);
            return n;
        }

        int told(List<String> told) {
            Token t = now();
            String n = name();
            if (!told.contains(n)) throw new Fault(t.place);
            return told.indexOf(n);
        }

        int number(int low, int high) {
            if (now().kind != 'n') throw fault();
            int n = Integer.parseInt(now().text);
            if (n < low || n > high) throw fault();
            at++;
            return n;
        }

        School text() {
            while (now().kind != 'e') item();
            for (Runnable r : late) r.run();
            return s;
        }

        void item() {
            if (is("subject")) {
                at++;
                newName(s.subjects, 12);
            } else if (is("room")) {
                at++;
                newName(s.rooms, 6);
                s.roomPlaces.add(number(1, 99));
            } else if (is("staff")) {
                at++;
                newName(s.staffs, 10);
                staff();
            } else if (is("group")) {
                at++;
                newName(s.groups, 8);
                s.groupSize.add(number(1, 99));
            } else if (is("lesson")) {
                at++;
                newName(s.lessons, 12);
                lesson();
            } else if (is("course")) {
                at++;
                newName(s.courses, 8);
                s.coursePlaces.add(number(1, 99));
            } else if (is("rule")) {
                at++;
                newName(s.rules, 12);
                rule();
                return;
            } else {
                throw fault();
            }
            want(";");
        }

        void staff() {
            Staff one = new Staff();
            one.kind = is("teacher") ? 2 : is("tutor") ? 3 : is("head") ? 4 : -1;
            if (one.kind < 0) throw fault();
            at++;
            want(":");
            do {
                Token t = tokens.get(at);
                if (!one.subjects.add(told(s.subjects))) throw new Fault(t.place);
            } while (is(",") && at++ >= 0);
            s.staff.add(one);
        }

        void lesson() {
            want(":");
            int subject = told(s.subjects);
            int group = told(s.groups);
            Token t = now();
            int staff = told(s.staffs);
            if (!s.staff.get(staff).subjects.contains(subject)) throw new Fault(t.place);
            int times = number(1, 3);
            s.lesson.add(new int[] {subject, group, staff, times});
            for (int i = 0; i < times; i++) s.unitLesson.add(s.lesson.size() - 1);
        }

        void rule() {
            rule = new Rule();
            s.rule.add(rule);
            want("(");
            if (!is(")")) {
                do newName(rule.names, 4); while (is(",") && at++ >= 0);
            }
            want(")");
            rule.variables.addAll(rule.names);
            rule.block = block(0);
        }

        void deep(int depth) {
            if (depth >= 12) throw fault();
        }

        void node() {
            if (s.nodes == 400) throw fault();
            s.nodes++;
        }

        void expNode() {
            if (expNodes == 30) throw fault();
            expNodes++;
            node();
        }

        List<Act> block(int depth) {
            List<Act> acts = new ArrayList<>();
            if (!is("{")) throw fault();
            deep(depth);
            at++;
            while (!is("}")) acts.add(act(depth + 1));
            at++;
            return acts;
        }

        Act act(int d) {
            if (now().kind != 'w') throw fault();
            String w = now().text;
            if (!RESERVED.contains(w)) return assign(d);
            if (!Arrays.asList("if", "for", "try", "raise", "give", "copy").contains(w)) throw fault();
            node();
            at++;
            switch (w) {
                case "if": {
                    Exp e = top(d);
                    List<Act> yes = block(d);
                    List<Act> no = new ArrayList<>();
                    if (is("else")) {
                        at++;
                        no = block(d);
                    }
                    List<Act> other = no;
                    return f -> {
                        step();
                        doAll(whole(e.eval(f)) != 0 ? yes : other, f);
                    };
                }
                case "for": {
                    String n = name();
                    rule.variables.add(n);
                    want("to");
                    Exp e = top(d);
                    List<Act> body = block(d);
                    return f -> {
                        step();
                        int bound = whole(e.eval(f));
                        for (int i = 0; i < bound; i++) {
                            step();
                            f.variables.put(n, i);
                            doAll(body, f);
                        }
                    };
                }
                case "try": return tryAct(d);
                case "raise": {
                    int kind = failure(new HashSet<>());
                    want(";");
                    return f -> {
                        step();
                        throw fail(kind);
                    };
                }
                case "give": {
                    Exp e = top(d);
                    want(";");
                    return f -> {
                        step();
                        throw new Given(e.eval(f));
                    };
                }
                default: return copyAct(d);
            }
        }

        int failure(Set<Integer> seen) {
            int kind = now().kind == 'w' ? FAILS.indexOf(now().text) : -1;
            if (kind < 1 || !seen.add(kind)) throw fault();
            at++;
            return kind;
        }

        Act tryAct(int d) {
            List<Act> first = block(d);
            Map<Integer, List<Act>> ons = new HashMap<>();
            Set<Integer> seen = new HashSet<>();
            while (is("on")) {
                at++;
                int kind = failure(seen);
                ons.put(kind, block(d));
            }
            List<Act> always = new ArrayList<>();
            if (is("always")) {
                at++;
                always = block(d);
            }
            List<Act> last = always;
            return f -> {
                step();
                RuntimeException goesOn = null;
                try {
                    try {
                        doAll(first, f);
                    } catch (Failure e) {
                        if (!ons.containsKey(e.kind)) throw e;
                        doAll(ons.get(e.kind), f);
                    }
                } catch (Failure | Given e) {
                    goesOn = e;
                }
                doAll(last, f);
                if (goesOn != null) throw goesOn;
            };
        }

        Act copyAct(int d) {
            Exp[] e = new Exp[5];
            for (int i = 0; i < 5; i++) {
                if (i > 0) want(",");
                e[i] = top(d);
            }
            want(";");
            return f -> {
                step();
                Object[] v = new Object[5];
                for (int i = 0; i < 5; i++) v[i] = e[i].eval(f);
                copy(v[0], whole(v[1]), v[2], whole(v[3]), whole(v[4]));
            };
        }

        Act assign(int d) {
            node();
            Token t = now();
            String n = name();
            Rule in = rule;
            if (is("[")) {
                late.add(() -> {
                    if (!in.variables.contains(n)) throw new Fault(t.place);
                });
                deep(d);
                at++;
                Exp i = top(d + 1);
                want("]");
                want("=");
                Exp a = top(d);
                want(";");
                return f -> {
                    step();
                    Object iv = i.eval(f);
                    Object av = a.eval(f);
                    setItem(whole(iv), row(f.variables.get(n)), av);
                };
            }
            want("=");
            rule.variables.add(n);
            Exp a = top(d);
            want(";");
            return f -> {
                step();
                f.variables.put(n, a.eval(f));
            };
        }

        Exp top(int d) {
            expNodes = 0;
            return exp(d);
        }

        String oneOf(String... signs) {
            for (String x : signs) {
                if (is(x)) {
                    expNode();
                    at++;
                    return x;
                }
            }
            return null;
        }

        Exp exp(int d) {
            Exp a = sum(d);
            String op = oneOf("<", ">", "=");
            return op == null ? a : binary(op, a, sum(d));
        }

        Exp sum(int d) {
            Exp a = term(d);
            for (String op = oneOf("+", "-"); op != null; op = oneOf("+", "-")) a = binary(op, a, term(d));
            return a;
        }

        Exp term(int d) {
            Exp a = one(d);
            for (String op = oneOf("*", "/", "%"); op != null; op = oneOf("*", "/", "%")) a = binary(op, a, one(d));
            return a;
        }

        Exp binary(String op, Exp a, Exp b) {
            return f -> {
                Object x = a.eval(f);
                Object y = b.eval(f);
                return work(op, x, y);
            };
        }

        Exp one(int d) {
            if (is("-")) {
                deep(d);
                expNode();
                at++;
                Exp a = one(d + 1);
                return f -> minus(a.eval(f));
            }
            Exp a = base(d);
            while (is("[")) {
                deep(d);
                expNode();
                at++;
                Exp r = a;
                Exp i = exp(d + 1);
                want("]");
                a = f -> {
                    Object rv = r.eval(f);
                    Object iv = i.eval(f);
                    int n = whole(iv);
                    return itemOf(row(rv), n);
                };
            }
            return a;
        }

        Exp base(int d) {
            Token t = now();
            if (is("(")) {
                deep(d);
                at++;
                Exp a = exp(d + 1);
                want(")");
                return a;
            }
            if (t.kind == 'n' || t.kind == 'r') {
                expNode();
                at++;
                Object v = t.kind == 'n' ? (Object) Integer.valueOf(t.text) : (Object) Double.valueOf(t.text);
                return f -> v;
            }
            if (t.kind != 'w') throw fault();
            boolean named = !RESERVED.contains(t.text);
            boolean one = ONE.contains(t.text);
            boolean two = TWO.contains(t.text);
            if (!named && !one && !two && !is("none")) throw fault();
            expNode();
            at++;
            if (t.is("none")) return f -> null;
            if (one || two) {
                if (!is("(")) throw fault();
                deep(d);
                at++;
                Exp a = exp(d + 1);
                if (two) want(",");
                Exp b = two ? exp(d + 1) : null;
                want(")");
                return f -> {
                    Object x = a.eval(f);
                    Object y = b == null ? null : b.eval(f);
                    return worked(t.text, x, y);
                };
            }
            if (is("(")) return call(t, d);
            Rule in = rule;
            late.add(() -> {
                if (!in.variables.contains(t.text)) throw new Fault(t.place);
            });
            return f -> f.variables.get(t.text);
        }

        Exp call(Token t, int d) {
            deep(d);
            at++;
            // the place in the row of late faults is the name's own, ahead of those in its ( )
            int place = late.size();
            List<Exp> exps = new ArrayList<>();
            if (!is(")")) {
                do exps.add(exp(d + 1)); while (is(",") && at++ >= 0);
            }
            want(")");
            School school = s;
            late.add(place, () -> {
                int r = school.rules.indexOf(t.text);
                if (r < 0 || school.rule.get(r).names.size() != exps.size()) throw new Fault(t.place);
            });
            return f -> {
                Object[] v = new Object[exps.size()];
                for (int i = 0; i < v.length; i++) v[i] = exps.get(i).eval(f);
                step();
                if (f.depth == 8) throw new Ended(-21);
                return enter(school.rule.get(school.rules.indexOf(t.text)), v, f.depth + 1);
            };
        }
    }

    // ======== 3 rules

    static final class Failure extends RuntimeException {
        private static final long serialVersionUID = 1;
        final int kind;

        Failure(int kind) {
            super(null, null, false, false);
            this.kind = kind;
        }
    }

    static final class Given extends RuntimeException {
        private static final long serialVersionUID = 1;
        final transient Object value;

        Given(Object value) {
            super(null, null, false, false);
            this.value = value;
        }
    }

    static final class Ended extends RuntimeException {
        private static final long serialVersionUID = 1;
        final int code;

        Ended(int code) {
            super(null, null, false, false);
            this.code = code;
        }
    }

    static final class Person {
        int number, kind, worth, group = NONE;
        Row[] marks = new Row[8];
        List<Integer> ranks = new ArrayList<>();
        int[] tickets = new int[8];
        int placed = NONE;
    }

    /** Items of a row: Integers, Doubles, or Persons. */
    static final class Row {
        int sort;
        Object[] items;
    }

    static final int DIVIDE = 1, INDEX = 2, NULL = 3, CAST = 4, SIZE = 5, STORE = 6, EXACT = 7;

    int rowsMade, failures, stepsDone, limit;

    RuntimeException fail(int kind) {
        if (failures == 10000) return new Ended(-23);
        failures++;
        return new Failure(kind);
    }

    void step() {
        if (stepsDone == limit) throw new Ended(-20);
        stepsDone++;
    }

    void doAll(List<Act> acts, Frame f) {
        for (Act a : acts) a.act(f);
    }

    Object enter(Rule r, Object[] v, int depth) {
        Frame f = new Frame();
        f.depth = depth;
        for (int i = 0; i < v.length; i++) f.variables.put(r.names.get(i), v[i]);
        try {
            doAll(r.block, f);
            return null;
        } catch (Given g) {
            return g.value;
        }
    }

    int whole(Object v) {
        if (v == null) throw fail(NULL);
        if (!(v instanceof Integer)) throw fail(CAST);
        return (Integer) v;
    }

    void number(Object v) {
        if (v == null) throw fail(NULL);
        if (!(v instanceof Integer) && !(v instanceof Double)) throw fail(CAST);
    }

    Row row(Object v) {
        if (v == null) throw fail(NULL);
        if (!(v instanceof Row)) throw fail(CAST);
        return (Row) v;
    }

    Object work(String op, Object x, Object y) {
        number(x);
        number(y);
        if (x instanceof Double || y instanceof Double) {
            double a = ((Number) x).doubleValue();
            double b = ((Number) y).doubleValue();
            switch (op) {
                case "+": return a + b;
                case "-": return a - b;
                case "*": return a * b;
                case "/": return a / b;
                case "%": return a % b;
                case "<": return a < b ? 1 : 0;
                case ">": return a > b ? 1 : 0;
                default: return a == b ? 1 : 0;
            }
        }
        int a = (Integer) x;
        int b = (Integer) y;
        try {
            switch (op) {
                case "+": return Math.addExact(a, b);
                case "-": return Math.subtractExact(a, b);
                case "*": return Math.multiplyExact(a, b);
                case "/": if (b == 0) throw fail(DIVIDE); else return a / b;
                case "%": if (b == 0) throw fail(DIVIDE); else return a % b;
                case "<": return a < b ? 1 : 0;
                case ">": return a > b ? 1 : 0;
                default: return a == b ? 1 : 0;
            }
        } catch (ArithmeticException e) {
            throw fail(EXACT);
        }
    }

    Object minus(Object v) {
        number(v);
        if (v instanceof Double) return -(Double) v;
        if ((Integer) v == Integer.MIN_VALUE) throw fail(EXACT);
        return -(Integer) v;
    }

    Object itemOf(Row r, int i) {
        if (i < 0 || i >= r.items.length) throw fail(INDEX);
        return r.items[i];
    }

    void setItem(int i, Row r, Object a) {
        if (r.sort == 0) whole(a);
        if (r.sort == 1) number(a);
        if (i < 0 || i >= r.items.length) throw fail(INDEX);
        if (r.sort >= 2 && a != null && !(a instanceof Person)) throw fail(CAST);
        if (r.sort == 3 && a != null && ((Person) a).kind < 2) throw fail(STORE);
        r.items[i] = r.sort == 1 ? (Object) ((Number) a).doubleValue() : a;
    }

    void copy(Object r, int i, Object s, int j, int n) {
        if (r == null || s == null) throw fail(NULL);
        if (!(r instanceof Row) || !(s instanceof Row)) throw fail(STORE);
        Row from = (Row) r;
        Row to = (Row) s;
        if (Math.min(from.sort, 2) != Math.min(to.sort, 2)) throw fail(STORE);
        if (i < 0 || j < 0 || n < 0 || (long) i + n > from.items.length || (long) j + n > to.items.length) throw fail(INDEX);
        Object[] taken = from.items.clone();
        for (int k = 0; k < n; k++) {
            Object a = taken[i + k];
            if (to.sort == 3 && a != null && ((Person) a).kind < 2) throw fail(STORE);
            to.items[j + k] = a;
        }
    }

    Row newRow(int sort, int n) {
        rowsMade++;
        Row r = new Row();
        r.sort = sort;
        r.items = new Object[n];
        Arrays.fill(r.items, sort == 0 ? (Object) 0 : sort == 1 ? (Object) 0.0 : null);
        return r;
    }

    Object worked(String word, Object x, Object y) {
        switch (word) {
            case "row": case "reals": case "people": case "teachers": {
                int n = whole(x);
                if (n < 0 || n > 64) throw fail(SIZE);
                if (rowsMade == 6000) throw new Ended(-22);
                return newRow(ONE.indexOf(word), n);
            }
            case "size": return row(x).items.length;
            case "whole":
                number(x);
                return ((Number) x).intValue();
            case "real":
                number(x);
                return ((Number) x).doubleValue();
            case "lacks": return x == null ? 1 : 0;
            case "person": {
                int n = whole(x);
                if (n < 0 || n >= people.size()) throw fail(INDEX);
                return people.get(n);
            }
            case "level": {
                int t = whole(y);
                if (x == null) throw fail(NULL);
                if (!(x instanceof Person)) throw fail(CAST);
                if (t < 0 || t > 3) throw fail(INDEX);
                return levelOf((Person) x, t);
            }
            default: {
                int p = whole(x);
                int c = whole(y);
                if (p < 0 || p >= people.size() || people.get(p).kind != 0 || c < 0 || c >= s.courses.size()) throw fail(INDEX);
                return people.get(p).marks[c];
            }
        }
    }

    /** The code of how a RUN ends; what it gave is in value. */
    int doRun(Rule r, int steps, int[] v) {
        value = null;
        stepsDone = 0;
        if (failures == 10000) return -23;
        limit = steps;
        try {
            Object[] args = new Object[r.names.size()];
            for (int i = 0; i < args.length; i++) args[i] = v[i];
            value = enter(r, args, 1);
        } catch (Failure f) {
            return -10 - f.kind;
        } catch (Ended e) {
            return e.code;
        }
        if (value == null) return 0;
        if (value instanceof Integer) return 1;
        if (value instanceof Double) return 2;
        if (value instanceof Person) return 3;
        return 4 + ((Row) value).sort;
    }

    // ======== the object

    String tape = "";
    School s = new School();
    List<Person> people = new ArrayList<>();
    Object value, gave;
    int gaveSteps;
    List<Integer> standings = new ArrayList<>();
    int n = 4;
    boolean[][] barred, absent;
    int[][] wishes;
    int[][] best;
    int bestWeight, nodes;
    boolean searched, matched;
    int[] covering;

    Oracle() {
        forgetWeek();
    }

    void forgetWeek() {
        barred = new boolean[10][20];
        absent = new boolean[10][20];
        wishes = new int[12][20];
        noTable();
    }

    void noTable() {
        best = null;
        covering = null;
        searched = false;
    }

    int feed(int k, long bytes) {
        if (k < 1 || k > 8) return BAD;
        if (tape.length() + k > 2400) return FULL;
        StringBuilder b = new StringBuilder(tape);
        for (int i = 0; i < k; i++) b.append((char) (bytes >>> 8 * i & 255));
        tape = b.toString();
        return tape.length();
    }

    int read() {
        String text = tape;
        tape = "";
        School read;
        try {
            read = new Parser(text).text();
        } catch (Fault f) {
            return -10 - f.place;
        }
        s = read;
        people = new ArrayList<>();
        for (int i = 0; i < s.staff.size(); i++) add(s.staff.get(i).kind, i, NONE);
        gave = null;
        gaveSteps = 0;
        standings.clear();
        matched = false;
        forgetWeek();
        return s.rule.size();
    }

    int count(int what) {
        int[] all = {s.subjects.size(), s.rooms.size(), s.staffs.size(), s.groups.size(), s.lessons.size(), s.courses.size(),
            s.rules.size(), s.nodes, people.size(), s.unitLesson.size(), tape.length(), rowsMade, failures};
        return what < 0 || what >= all.length ? BAD : all[what];
    }

    int add(int kind, int worth, int group) {
        Person p = new Person();
        p.number = people.size();
        p.kind = kind;
        p.worth = worth;
        p.group = group;
        people.add(p);
        return p.number;
    }

    boolean has(int p) {
        return p >= 0 && p < people.size();
    }

    boolean hasCourse(int c) {
        return c >= 0 && c < s.courses.size();
    }

    int pupil(int group, int worth) {
        if (group < 0 || group >= s.groups.size() || worth < -99 || worth > 99) return BAD;
        if (people.stream().filter(p -> p.kind == 0 && p.group == group).count() >= s.groupSize.get(group)) return NO;
        if (people.size() == 24) return FULL;
        standings.clear();
        return add(0, worth, group);
    }

    int parent(int worth) {
        if (worth < -99 || worth > 99) return BAD;
        return people.size() == 24 ? FULL : add(1, worth, NONE);
    }

    int person(int p, int what) {
        if (!has(p) || what < 0 || what > 2) return -100;
        Person q = people.get(p);
        return new int[] {q.kind, q.worth, q.group}[what];
    }

    static int levelOf(Person p, int t) {
        int[] member = {0, 1, 0, 0};
        int[] kin = {1, 1, 0, 1};
        int[] staff = {2, 1, 2, 0};
        switch (p.kind) {
            case 0: return member[t];
            case 1: return kin[t];
            case 2: return staff[t];
            case 3: return staff[t] + kin[t];
            default: return 3 * staff[t] + staff[t] + kin[t] + (p.worth > 5 ? 1 : 0);
        }
    }

    int level(int p, int t) {
        return !has(p) || t < 0 || t > 3 ? BAD : levelOf(people.get(p), t);
    }

    int marks(int p, int c, int k) {
        if (!has(p) || !hasCourse(c) || k < -1 || k > 64) return BAD;
        if (people.get(p).kind != 0) return NO;
        if (k >= 0 && rowsMade == 6000) return FULL;
        people.get(p).marks[c] = k < 0 ? null : newRow(0, k);
        return 0;
    }

    int mark(int p, int c, int i, int v) {
        if (!has(p) || !hasCourse(c)) return BAD;
        Row r = people.get(p).marks[c];
        if (r == null || i < 0 || i >= r.items.length) return NO;
        int old = (Integer) r.items[i];
        r.items[i] = v;
        return old;
    }

    int markOf(int p, int c, int i) {
        if (!has(p) || !hasCourse(c)) return -2000000000;
        Row r = people.get(p).marks[c];
        if (r == null || i < -1 || i >= r.items.length) return -2000000001;
        return i == -1 ? r.items.length : (Integer) r.items[i];
    }

    int run(int rule, int steps, int a, int b, int c, int d) {
        if (rule < 0 || rule >= s.rule.size() || steps < 1 || steps > 3000) return BAD;
        int code = doRun(s.rule.get(rule), steps, new int[] {a, b, c, d});
        gave = code < 0 ? null : value;
        gaveSteps = stepsDone;
        return code;
    }

    static long bits(Object v) {
        if (v == null) return NONE;
        if (v instanceof Integer) return (Integer) v;
        if (v instanceof Double) return Double.doubleToLongBits((Double) v);
        return ((Person) v).number;
    }

    long gave(int i) {
        if (i == -1 && gave instanceof Integer || i == -2 && gave instanceof Double || i == -3 && gave instanceof Person) {
            return bits(gave);
        }
        if (!(gave instanceof Row)) return 0;
        Row r = (Row) gave;
        if (i == -4) return r.items.length;
        return i >= 0 && i < r.items.length ? bits(r.items[i]) : 0;
    }

    int steps() {
        return gaveSteps;
    }

    int stand(int rule, int steps) {
        if (rule < 0 || rule >= s.rule.size() || steps < 1 || steps > 3000 || s.rule.get(rule).names.size() != 1) return BAD;
        Map<Integer, Object> given = new HashMap<>();
        standings.clear();
        for (Person p : people) {
            if (p.kind != 0) continue;
            int code = doRun(s.rule.get(rule), steps, new int[] {p.number});
            given.put(p.number, code < 0 ? null : value);
            standings.add(p.number);
        }
        standings.sort((p, q) -> {
            Object x = given.get(p);
            Object y = given.get(q);
            int gx = grade(x);
            int gy = grade(y);
            if (gx != gy) return gx - gy;
            if (gx == 0) {
                double a = ((Number) x).doubleValue();
                double b = ((Number) y).doubleValue();
                if (a < b) return -1;
                if (b < a) return 1;
            }
            return p - q;
        });
        return standings.size();
    }

    static int grade(Object v) {
        if (!(v instanceof Number)) return 2;
        return Double.isNaN(((Number) v).doubleValue()) ? 1 : 0;
    }

    int standing(int k) {
        return k < 0 || k >= standings.size() ? BAD : standings.get(k);
    }

    // ======== 4 the table

    int week(int k) {
        if (k < 1 || k > 4) return BAD;
        int old = n;
        n = k;
        forgetWeek();
        return old;
    }

    boolean noStaffThere(int staff, int period, int on) {
        return staff < 0 || staff >= s.staffs.size() || period < 0 || period >= 5 * n || on != 0 && on != 1;
    }

    int bar(int staff, int period, int on) {
        if (noStaffThere(staff, period, on)) return BAD;
        barred[staff][period] = on == 1;
        noTable();
        return 0;
    }

    int wish(int lesson, int period, int weight) {
        if (lesson < 0 || lesson >= s.lessons.size() || period < 0 || period >= 5 * n || weight < -99 || weight > 99) return -100;
        int old = wishes[lesson][period];
        wishes[lesson][period] = weight;
        noTable();
        return old;
    }

    int build(int most) {
        if (most < 1 || most > 10000) return BAD;
        noTable();
        searched = true;
        nodes = 0;
        boolean ended;
        try {
            search(0, new int[s.unitLesson.size()][], 0, most);
            ended = true;
        } catch (Ended e) {
            ended = false;
        }
        return (ended ? 0 : 1) + (best != null ? 0 : 2);
    }

    void search(int u, int[][] placed, int weight, int most) {
        if (u == placed.length) {
            best = placed.clone();
            bestWeight = weight;
            return;
        }
        int behind = 0;
        for (int v = u + 1; v < placed.length; v++) {
            behind += Arrays.stream(wishes[s.unitLesson.get(v)], 0, 5 * n).min().getAsInt();
        }
        for (int period = 0; period < 5 * n; period++) {
            for (int room = 0; room < s.rooms.size(); room++) {
                if (nodes == most) throw new Ended(0);
                nodes++;
                int own = wishes[s.unitLesson.get(u)][period];
                if (fits(u, placed, period, room) && (best == null || weight + own + behind < bestWeight)) {
                    placed[u] = new int[] {period, room};
                    search(u + 1, placed, weight + own, most);
                }
            }
        }
    }

    boolean fits(int u, int[][] placed, int period, int room) {
        int[] l = s.lesson.get(s.unitLesson.get(u));
        if (s.roomPlaces.get(room) < s.groupSize.get(l[1]) || barred[l[2]][period]) return false;
        for (int v = 0; v < u; v++) {
            int[] k = s.lesson.get(s.unitLesson.get(v));
            if (placed[v][0] == period && (placed[v][1] == room || k[1] == l[1] || k[2] == l[2])) return false;
            if (k == l && placed[v][0] / n == period / n) return false;
        }
        return true;
    }

    int table(int what) {
        if (what != 0 && what != 1) return BAD;
        if (what == 1) return searched ? nodes : -100000;
        return best != null ? bestWeight : -100000;
    }

    int unit(int u, int what) {
        if (u < 0 || u >= s.unitLesson.size() || what < 0 || what > 2) return BAD;
        if (best == null) return NO;
        return what == 0 ? s.unitLesson.get(u) : best[u][what - 1];
    }

    // ======== 5 choices

    int prefer(int p, int c) {
        if (!has(p) || !hasCourse(c)) return BAD;
        Person q = people.get(p);
        if (q.kind != 0 || q.ranks.contains(c)) return NO;
        q.ranks.add(c);
        return q.ranks.size();
    }

    int lottery(int seed) {
        int pupils = 0;
        for (Person p : people) {
            if (p.kind != 0) continue;
            pupils++;
            for (int c = 0; c < 8; c++) {
                int h = seed ^ ((16 * p.number + c) * (int) 0x9E3779B1L);
                h = (h ^ (h >>> 15)) * (int) 0x85EBCA77L;
                p.tickets[c] = h ^ (h >>> 13);
            }
        }
        return pupils;
    }

    int ticket(int p, int c) {
        return has(p) && hasCourse(c) && people.get(p).kind == 0 ? people.get(p).tickets[c] : 0;
    }

    List<Person> byTickets(List<Person> some, int c) {
        List<Person> row = new ArrayList<>(some);
        row.sort((p, q) -> p.tickets[c] != q.tickets[c] ? Integer.compare(p.tickets[c], q.tickets[c]) : p.number - q.number);
        return row;
    }

    int match(int way) {
        if (way != 0 && way != 1) return BAD;
        matched = true;
        List<Person> pupils = new ArrayList<>();
        for (Person p : people) {
            p.placed = NONE;
            if (p.kind == 0) pupils.add(p);
        }
        if (way == 0) offers(pupils); else trades(pupils);
        int placed = 0;
        for (Person p : pupils) placed += p.placed != NONE ? 1 : 0;
        return placed;
    }

    void offers(List<Person> pupils) {
        Map<Person, Integer> asks = new HashMap<>();
        for (Person p : pupils) asks.put(p, 0);
        boolean changed = true;
        while (changed) {
            changed = false;
            for (int c = 0; c < s.courses.size(); c++) {
                List<Person> asking = new ArrayList<>();
                for (Person p : pupils) {
                    if (asks.get(p) < p.ranks.size() && p.ranks.get(asks.get(p)) == c) asking.add(p);
                }
                List<Person> row = byTickets(asking, c);
                for (int i = s.coursePlaces.get(c); i < row.size(); i++) {
                    asks.put(row.get(i), asks.get(row.get(i)) + 1);
                    changed = true;
                }
            }
        }
        for (Person p : pupils) p.placed = asks.get(p) < p.ranks.size() ? p.ranks.get(asks.get(p)) : NONE;
    }

    void trades(List<Person> pupils) {
        List<Person> waiting = new ArrayList<>(pupils);
        int[] left = new int[8];
        for (int c = 0; c < s.courses.size(); c++) left[c] = s.coursePlaces.get(c);
        while (true) {
            Map<Person, Integer> wants = new HashMap<>();
            for (Person p : new ArrayList<>(waiting)) {
                for (int c : p.ranks) {
                    if (left[c] > 0) wants.putIfAbsent(p, c);
                }
                if (!wants.containsKey(p)) waiting.remove(p);
            }
            if (waiting.isEmpty()) return;
            Map<Person, Person> next = new HashMap<>();
            for (Person p : waiting) next.put(p, byTickets(waiting, wants.get(p)).get(0));
            // whoever is still there after many steps from anybody is in a ring
            Set<Person> ring = new HashSet<>();
            for (Person p : waiting) {
                Person q = p;
                for (int i = 0; i < 100; i++) q = next.get(q);
                ring.add(q);
                for (Person r = next.get(q); r != q; r = next.get(r)) ring.add(r);
            }
            for (Person p : ring) {
                p.placed = wants.get(p);
                left[p.placed]--;
                waiting.remove(p);
            }
        }
    }

    int placed(int p) {
        return has(p) ? people.get(p).placed : BAD;
    }

    int stable() {
        if (!matched) return NO;
        for (Person p : people) {
            if (p.kind != 0) continue;
            for (int c = 0; c < s.courses.size(); c++) {
                if (!p.ranks.contains(c)) continue;
                if (p.placed != NONE && p.ranks.indexOf(p.placed) <= p.ranks.indexOf(c)) continue;
                int course = c;
                long there = people.stream().filter(q -> q.placed == course).count();
                boolean envy = people.stream().anyMatch(q -> q.placed == course
                    && (q.tickets[course] > p.tickets[course] || q.tickets[course] == p.tickets[course] && q.number > p.number));
                if (there < s.coursePlaces.get(c) || envy) return 1 + 100 * p.number + c;
            }
        }
        return 0;
    }

    // ======== 6 cover

    int absent(int staff, int period, int on) {
        if (noStaffThere(staff, period, on)) return BAD;
        absent[staff][period] = on == 1;
        return 0;
    }

    int cover(int period) {
        if (period < 0 || period >= 5 * n) return BAD;
        if (best == null) return NO;
        List<Integer> open = new ArrayList<>();
        Set<Integer> busy = new HashSet<>();
        for (int u = 0; u < best.length; u++) {
            if (best[u][0] != period) continue;
            int staff = s.lesson.get(s.unitLesson.get(u))[2];
            busy.add(staff);
            if (absent[staff][period]) open.add(u);
        }
        List<List<Integer>> ways = new ArrayList<>();
        ways.add(new ArrayList<>());
        for (int u : open) {
            List<List<Integer>> more = new ArrayList<>();
            for (List<Integer> way : ways) {
                for (int t = 0; t <= s.staffs.size(); t++) {
                    boolean nobody = t == s.staffs.size();
                    if (!nobody && (busy.contains(t) || way.contains(t) || absent[t][period] || barred[t][period]
                        || !s.staff.get(t).subjects.contains(s.lesson.get(s.unitLesson.get(u))[0]))) continue;
                    List<Integer> longer = new ArrayList<>(way);
                    longer.add(nobody ? 99 : t);
                    more.add(longer);
                }
            }
            ways = more;
        }
        List<Integer> first = null;
        for (List<Integer> way : ways) {
            if (first == null || isBetter(way, first)) first = way;
        }
        covering = new int[best.length];
        Arrays.fill(covering, NONE);
        int nobody = 0;
        for (int i = 0; i < open.size(); i++) {
            if (first.get(i) == 99) nobody++;
            else covering[open.get(i)] = first.get(i);
        }
        return nobody;
    }

    static boolean isBetter(List<Integer> a, List<Integer> b) {
        long noneA = a.stream().filter(x -> x == 99).count();
        long noneB = b.stream().filter(x -> x == 99).count();
        if (noneA != noneB) return noneA < noneB;
        for (int i = 0; i < a.size(); i++) {
            if (!a.get(i).equals(b.get(i))) return a.get(i) < b.get(i);
        }
        return false;
    }

    int covers(int u) {
        if (u < 0 || u >= s.unitLesson.size()) return BAD;
        return covering == null ? NO : covering[u];
    }
}
