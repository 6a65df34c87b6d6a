import java.util.Random;

/** Random texts: most of them without a fault, some with one. */
final class Texts {
    private static final String[] FAILS = {"divide", "index", "null", "cast", "size", "store", "exact"};
    private static final String[] ALL = ("subject room staff group lesson course rule teacher tutor head if else for to try on "
        + "always raise give copy divide index null cast size store exact none row reals people teachers whole real lacks person "
        + "level marks ; : , = + - * / % < > ( ) [ ] { } x y z f0 f1 f2 s0 s1 0 1 2 7 99 100 999999 1000000 1.5 0.25 123456.1234 "
        + "1.23456 1234567.1 abcdefgh abcdefghi A . ! 12. \n").split(" ");

    private final Random r;
    private final StringBuilder b = new StringBuilder();
    private int rules;
    private int[] arity;
    private int names;
    private int wildness;

    Texts(Random r) {
        this.r = r;
    }

    private void put(String... tokens) {
        for (String t : tokens) {
            char last = b.length() == 0 ? ' ' : b.charAt(b.length() - 1);
            boolean glues = Character.isLetterOrDigit(last) && Character.isLetterOrDigit(t.charAt(0));
            if (glues || r.nextInt(3) == 0) b.append(r.nextInt(9) == 0 ? '\n' : ' ');
            b.append(t);
        }
    }

    private String number(int from, int to) {
        return Integer.toString(from + r.nextInt(to - from + 1));
    }

    private int some(int most) {
        return r.nextInt(8) == 0 ? 0 : 1 + r.nextInt(most);
    }

    private String one(String... of) {
        return of[r.nextInt(of.length)];
    }

    /** A text whose rules FAIL now and then; the wilder, the more often. */
    String text(int wild) {
        wildness = wild;
        b.setLength(0);
        int subjects = 1 + r.nextInt(3);
        int rooms = some(4);
        int staff = some(9);
        int groups = 1 + r.nextInt(3);
        for (int i = 0; i < subjects; i++) put("subject", "s" + i, ";");
        for (int i = 0; i < rooms; i++) put("room", "r" + i, number(3, 12), ";");
        int[] first = new int[10];
        for (int i = 0; i < staff; i++) {
            first[i] = r.nextInt(subjects);
            put("staff", "t" + i, one("teacher", "tutor", "head"), ":", "s" + first[i]);
            for (int k = 0; k < subjects; k++) {
                if (k != first[i] && r.nextBoolean()) put(",", "s" + k);
            }
            put(";");
        }
        for (int i = 0; i < groups; i++) put("group", "g" + i, number(1, 9), ";");
        int lessons = staff == 0 ? 0 : some(7);
        for (int i = 0; i < lessons; i++) {
            int t = r.nextInt(staff);
            put("lesson", "l" + i, ":", "s" + first[t], "g" + r.nextInt(groups), "t" + t, number(1, 3), ";");
        }
        int courses = some(4);
        for (int i = 0; i < courses; i++) put("course", "c" + i, number(1, 3), ";");
        rules(some(4));
        return b.length() <= 2400 ? b.toString() : text(wild);
    }

    private void rules(int n) {
        rules = n;
        arity = new int[n];
        for (int i = 0; i < n; i++) arity[i] = r.nextInt(3) == 0 ? r.nextInt(5) : r.nextInt(2);
        for (int i = 0; i < n; i++) {
            put("rule", "f" + i, "(");
            names = arity[i];
            for (int k = 0; k < arity[i]; k++) {
                if (k > 0) put(",");
                put("w" + k);
            }
            put(")", "{", "w4", "=", number(0, 9), ";", "d", "=", one("1.5", "0.1", "3.0", "1.0/0", "-0.0", "0.0/0"), ";");
            put("rw", "=", "row", "(", number(r.nextInt(4), 6), ")", ";", "rd", "=", "reals", "(", number(r.nextInt(4), 6), ")", ";");
            put("rp", "=", "people", "(", number(r.nextInt(4), 6), ")", ";", "rt", "=", "teachers", "(", number(r.nextInt(4), 6), ")", ";");
            put("try", "{", "p", "=", "person", "(", number(0, 9), ")", ";", "}");
            int acts = 1 + r.nextInt(6);
            int most = b.length() + 500;
            for (int k = 0; k < acts && b.length() < most; k++) act(3);
            if (r.nextInt(4) > 0) give();
            put("}");
        }
    }

    private void give() {
        put("give");
        exp(one(TYPES), 6);
        put(";");
    }

    private void block(int deep) {
        put("{");
        int acts = r.nextInt(4);
        for (int k = 0; k < acts; k++) act(deep);
        put("}");
    }

    private String whole() {
        return "w" + (names == 0 || r.nextInt(3) > 0 ? 4 : r.nextInt(names));
    }

    private String rowOf(String type) {
        return type.equals("whole") ? "rw" : type.equals("real") ? "rd" : one("rp", "rt");
    }

    /** A whole that is small most often. */
    private void index(int nodes) {
        if (r.nextInt(5) > 0) put(number(0, 2)); else exp("whole", nodes);
    }

    private void act(int deep) {
        String type = one("whole", "real", "person");
        switch (r.nextInt(deep > 0 ? 14 : 9)) {
            case 0: case 1:
                put(type.equals("whole") ? "w4" : type.equals("real") ? "d" : "p", "=");
                exp(type, 9);
                put(";");
                break;
            case 2:
                type = one("rw", "rd", "rp", "rt");
                put(type, "=");
                exp(type, 6);
                put(";");
                break;
            case 3: case 4: case 5:
                put(rowOf(type), "[");
                index(2);
                put("]", "=");
                exp(type, 6);
                put(";");
                break;
            case 6: case 7: copyAct(one("rw", "rd", "rp", "rt")); break;
            case 8:
                if (r.nextInt(3) > 0) act(deep);
                else if (r.nextBoolean()) put("raise", one(FAILS), ";");
                else give();
                break;
            case 9: case 10:
                put("if");
                exp("whole", 5);
                block(deep - 1);
                if (r.nextBoolean()) {
                    put("else");
                    block(deep - 1);
                }
                break;
            case 11:
                put("for", r.nextInt(4) > 0 ? "i" + deep : "w4", "to");
                if (r.nextInt(4) > 0) put(number(0, 9)); else exp("whole", 3);
                block(deep - 1);
                break;
            default:
                put("try");
                block(deep - 1);
                int from = r.nextInt(7);
                for (int k = r.nextInt(5); k > 0; k--) {
                    put("on", FAILS[from++ % 7]);
                    block(deep - 1);
                }
                if (r.nextBoolean()) {
                    put("always");
                    block(deep - 1);
                }
                break;
        }
    }

    private void copyAct(String type) {
        put("copy");
        exp(type, 2);
        put(",");
        index(1);
        put(",");
        exp(type.equals("rp") ? "rt" : type.equals("rt") && r.nextBoolean() ? "rp" : type, 2);
        put(",");
        index(1);
        put(",");
        index(1);
        put(";");
    }

    private static final String[] TYPES = {"whole", "whole", "real", "real", "person", "rw", "rd", "rp", "rt"};

    /** An exp of a type most often, with so many nodes at most, or a few more. */
    private void exp(String wanted, int nodes) {
        String type = r.nextInt(60) < wildness ? one(TYPES) : wanted;
        if (r.nextInt(90) < wildness) put("none");
        else if (type.equals("whole")) wholeExp(nodes);
        else if (type.equals("real")) realExp(nodes);
        else if (type.equals("person")) personExp(nodes);
        else if (r.nextInt(3) > 0 || nodes < 2) put(type);
        else if (type.equals("rw") && r.nextInt(3) == 0) put("marks", "(", number(0, 9), ",", number(0, 2), ")");
        else {
            put(type.equals("rw") ? "row" : type.equals("rd") ? "reals" : type.equals("rp") ? "people" : "teachers", "(");
            exp("whole", nodes - 2);
            put(")");
        }
    }

    private void wholeExp(int nodes) {
        if (nodes < 3) {
            put(r.nextInt(3) == 0 ? whole() : number(0, r.nextInt(9) == 0 ? 999999 : 4));
            return;
        }
        String type = one("whole", "real");
        switch (r.nextInt(9)) {
            case 0: case 1:
                put("(");
                exp("whole", nodes / 2);
                put(one("+", "-", "*", "/", "%", "<", ">", "="));
                exp("whole", nodes / 2);
                put(")");
                break;
            case 2:
                wholeExp(nodes / 2);
                put(one("+", "-", "*", "/", "%"));
                wholeExp(nodes / 2);
                break;
            case 3:
                put("(");
                exp("real", nodes / 2);
                put(one("<", ">", "="));
                exp(type, nodes / 2);
                put(")");
                break;
            case 4:
                put("-", "rw", "[");
                index(nodes - 3);
                put("]");
                break;
            case 5:
                put("whole", "(");
                exp(type, nodes - 1);
                put(")");
                break;
            case 6:
                if (r.nextBoolean()) {
                    put("size", "(", one("rw", "rd", "rp", "rt"), ")");
                    break;
                }
                put("level", "(");
                exp("person", nodes - 3);
                put(",", number(0, 3), ")");
                break;
            case 7:
                put("lacks", "(");
                exp(one(TYPES), nodes - 1);
                put(")");
                break;
            default: call(nodes); break;
        }
    }

    private void call(int nodes) {
        int f = rules > 0 ? r.nextInt(rules) : 0;
        if (rules == 0 || nodes < arity[f] + 1) {
            put(whole());
            return;
        }
        put("f" + f, "(");
        for (int k = 0; k < arity[f]; k++) {
            if (k > 0) put(",");
            exp("whole", (nodes - 1) / arity[f]);
        }
        put(")");
    }

    private void realExp(int nodes) {
        if (nodes < 3) {
            put(r.nextInt(2) == 0 ? "d" : one("0.0", "1.5", "2.25", "0.1", "999999.9999", "3.0", "0.0001"));
            return;
        }
        switch (r.nextInt(5)) {
            case 0: case 1:
                put("(");
                exp("real", nodes / 2);
                put(one("+", "-", "*", "/", "%"));
                exp(one("whole", "real"), nodes / 2);
                put(")");
                break;
            case 2:
                realExp(nodes / 2);
                put(one("+", "-", "*", "/", "%"));
                put(one("d", "1.5", "w4", "0.1"));
                break;
            case 3:
                put("-", "rd", "[");
                index(nodes - 3);
                put("]");
                break;
            default:
                put("real", "(");
                exp(one("whole", "real"), nodes - 1);
                put(")");
                break;
        }
    }

    private void personExp(int nodes) {
        if (nodes < 3) {
            put("p");
            return;
        }
        if (r.nextInt(3) == 0) {
            put(one("rp", "rt"), "[");
            index(nodes - 2);
            put("]");
            return;
        }
        put("person", "(");
        index(nodes - 1);
        put(")");
    }

    /** Another text, with something changed somewhere. */
    String spoilt(String text) {
        StringBuilder t = new StringBuilder(text);
        for (int n = 1 + r.nextInt(2); n > 0; n--) {
            int at = r.nextInt(t.length() + 1);
            switch (r.nextInt(5)) {
                case 0: t.insert(at, " " + one(ALL) + " "); break;
                case 1: t.insert(at, one(ALL)); break;
                case 2: t.setLength(at); break;
                case 3: t.delete(at, Math.min(t.length(), at + 1 + r.nextInt(8))); break;
                default:
                    int end = Math.min(t.length(), at + 1 + r.nextInt(30));
                    t.insert(r.nextInt(t.length() + 1), t.substring(at, end));
                    break;
            }
        }
        if (t.length() > 2400) t.setLength(2400);
        return t.toString();
    }
}
