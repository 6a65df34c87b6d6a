import java.util.Random;

/** Random calls, on the class and on the oracle, which must answer alike. */
public final class FuzzTest {
    private final Random r;
    private final SchoolHouse x = new SchoolHouse();
    private final Oracle o = new Oracle();

    private FuzzTest(long seed) {
        r = new Random(seed);
    }

    public static void main(String[] args) {
        int from = args.length > 0 ? Integer.parseInt(args[0]) : 0;
        int to = args.length > 1 ? Integer.parseInt(args[1]) : 1500;
        for (int seed = from; seed < to; seed++) {
            Check.part("seed " + seed);
            new FuzzTest(seed).go();
        }
        Check.finish();
    }

    private void go() {
        Texts texts = new Texts(r);
        int wild = r.nextInt(4) * 3;
        for (int n = 0; n < 4; n++) {
            String text = texts.text(wild);
            if (r.nextInt(3) == 0) readBoth(texts.spoilt(text));
            readBoth(text);
            for (int k = r.nextInt(40); k > 0; k--) peopleCall(2);
            for (int k = r.nextInt(40); k > 0; k--) prefer();
            for (int k = 0; k < 60; k++) call();
        }
    }

    private void readBoth(String text) {
        for (int i = 0; i < text.length(); ) {
            int n = Math.min(1 + r.nextInt(8), text.length() - i);
            long bytes = r.nextLong();
            if (n < 8) bytes <<= 8 * n; else bytes = 0;
            for (int k = 0; k < n; k++) bytes |= (long) (text.charAt(i + k) & 255) << 8 * k;
            due("feed", x.feed(n, bytes), o.feed(n, bytes));
            i += n;
        }
        due("read of " + text, x.read(), o.read());
        for (int w = -1; w <= 13; w++) due("count " + w, x.count(w), o.count(w));
    }

    private void due(String call, long got, long want) {
        Check.due(call, got, want);
    }

    /** A number that is most often one of those below n. */
    private int some(int n) {
        if (r.nextInt(60) == 0) return r.nextBoolean() ? Integer.MIN_VALUE : Integer.MAX_VALUE;
        return r.nextInt(12) == 0 ? r.nextInt(n + 3) - 2 : r.nextInt(Math.max(n, 1));
    }

    private int aPerson() {
        return some(o.people.size());
    }

    private int aCourse() {
        return some(o.s.courses.size());
    }

    private int aPeriod() {
        return some(5 * o.n);
    }

    private void call() {
        switch (r.nextInt(5)) {
            case 0: peopleCall(7); break;
            case 1: ruleCall(); break;
            case 2: tableCall(); break;
            case 3: choiceCall(); break;
            default: coverCall(); break;
        }
    }

    private void peopleCall(int kinds) {
        int p = aPerson();
        int c = aCourse();
        int i = r.nextInt(5) == 0 ? -1 : some(4);
        int v = r.nextInt(204) - 102;
        switch (r.nextInt(kinds)) {
            case 0: {
                int g = some(o.s.groups.size());
                due("pupil", x.pupil(g, v), o.pupil(g, v));
                break;
            }
            case 1:
                if (r.nextInt(3) == 0) due("parent", x.parent(v), o.parent(v));
                else due("marks", x.marks(p, c, i), o.marks(p, c, i));
                break;
            case 2:
                for (int w = -1; w < 4; w++) due("person", x.person(p, w), o.person(p, w));
                break;
            case 3:
                for (int t = -1; t < 5; t++) due("level", x.level(p, t), o.level(p, t));
                break;
            case 4: due("marks", x.marks(p, c, i), o.marks(p, c, i)); break;
            case 5: {
                int m = r.nextInt();
                due("mark", x.mark(p, c, i, m), o.mark(p, c, i, m));
                break;
            }
            default: due("markOf", x.markOf(p, c, i), o.markOf(p, c, i)); break;
        }
    }

    private int value() {
        int k = r.nextInt(10);
        return k == 0 ? r.nextInt() : k == 1 ? Integer.MIN_VALUE : k == 2 ? Integer.MAX_VALUE : r.nextInt(8) - 1;
    }

    private void ruleCall() {
        int rule = some(o.s.rules.size());
        int steps = r.nextInt(3) == 0 ? some(40) : some(3000);
        int a = value();
        int b = value();
        int c = value();
        int d = value();
        if (r.nextInt(6) == 0) {
            due("stand", x.stand(rule, steps), o.stand(rule, steps));
        } else {
            due("run " + rule + " " + steps, x.run(rule, steps, a, b, c, d), o.run(rule, steps, a, b, c, d));
            due("rows", x.count(11), o.count(11));
            due("failures", x.count(12), o.count(12));
        }
        due("steps", x.steps(), o.steps());
        for (int i = -5; i < 6; i++) due("gave " + i, x.gave(i), o.gave(i));
        for (int k = -1; k < 6; k++) due("standing", x.standing(k), o.standing(k));
    }

    private void tableCall() {
        int period = aPeriod();
        int on = some(2);
        switch (r.nextInt(8)) {
            case 0:
                if (r.nextInt(4) > 0) break;
                int n = some(5);
                due("week", x.week(n), o.week(n));
                break;
            case 1: {
                int s = some(o.s.staffs.size());
                due("bar", x.bar(s, period, on), o.bar(s, period, on));
                break;
            }
            case 2: case 3: {
                int l = some(o.s.lessons.size());
                int w = r.nextInt(204) - 102;
                due("wish", x.wish(l, period, w), o.wish(l, period, w));
                break;
            }
            default: {
                int nodes = r.nextInt(3) == 0 ? some(200) : some(10001);
                due("build", x.build(nodes), o.build(nodes));
                break;
            }
        }
        for (int w = -1; w < 3; w++) due("table", x.table(w), o.table(w));
        for (int u = -1; u <= o.s.unitLesson.size(); u++) {
            for (int w = -1; w < 4; w++) due("unit", x.unit(u, w), o.unit(u, w));
        }
    }

    private void prefer() {
        int p = aPerson();
        int c = aCourse();
        due("prefer", x.prefer(p, c), o.prefer(p, c));
    }

    private void choiceCall() {
        int p = aPerson();
        int c = aCourse();
        switch (r.nextInt(6)) {
            case 0: case 1: case 2: prefer(); break;
            case 3: {
                int seed = r.nextInt();
                due("lottery", x.lottery(seed), o.lottery(seed));
                break;
            }
            case 4: {
                int way = some(2);
                due("match", x.match(way), o.match(way));
                break;
            }
            default: due("ticket", x.ticket(p, c), o.ticket(p, c)); break;
        }
        for (int q = -1; q < 25; q++) due("placed", x.placed(q), o.placed(q));
        due("stable", x.stable(), o.stable());
    }

    private void coverCall() {
        int period = aPeriod();
        if (o.best != null && o.best.length > 0 && r.nextInt(3) > 0) period = o.best[r.nextInt(o.best.length)][0];
        for (int k = r.nextInt(6); k > 0; k--) {
            int s = some(o.s.staffs.size());
            int on = r.nextInt(4) == 0 ? some(2) : 1;
            due("absent", x.absent(s, period, on), o.absent(s, period, on));
        }
        due("cover", x.cover(period), o.cover(period));
        for (int u = -1; u <= o.s.unitLesson.size(); u++) due("covers", x.covers(u), o.covers(u));
    }
}
