import java.nio.charset.StandardCharsets;

/** What the tests share: feeding texts, and comparing answers with what is due. */
final class Check {
    private static int wrong = 0;
    private static String part = "";

    private Check() {
    }

    /** Names the part of the document that is tested from here on. */
    static void part(String name) {
        part = name;
    }

    static void due(String call, long got, long want) {
        if (got == want) return;
        wrong++;
        if (wrong <= 50) System.out.println(part + ": " + call + " answered " + got + ", due is " + want);
    }

    interface Call {
        long answer(int n);
    }

    /** Numbers far outside, below 0, and the first one too great are all refused. */
    static void wrong(Call call, long due, int tooGreat) {
        for (int n : new int[] {Integer.MIN_VALUE, -1000000, -100, tooGreat, tooGreat + 1, 1000000, Integer.MAX_VALUE}) {
            due("with " + n, call.answer(n), due);
        }
    }

    /** Puts a text on the tape, eight bytes at a time. */
    static void feed(SchoolHouse x, String text) {
        byte[] bytes = text.getBytes(StandardCharsets.ISO_8859_1);
        for (int i = 0; i < bytes.length; i += 8) {
            int n = Math.min(8, bytes.length - i);
            long packed = 0;
            for (int k = n - 1; k >= 0; k--) packed = packed << 8 | bytes[i + k] & 255;
            x.feed(n, packed);
        }
    }

    static int read(SchoolHouse x, String text) {
        feed(x, text);
        return x.read();
    }

    /** A new object that has read a text, which must have no fault. */
    static SchoolHouse school(String text) {
        SchoolHouse x = new SchoolHouse();
        int rules = read(x, text);
        if (rules < 0) due("read of \"" + text + "\"", rules, 0);
        return x;
    }

    static void finish() {
        System.out.println(wrong == 0 ? "all answers are as due" : wrong + " answers are not as due");
        if (wrong != 0) System.exit(1);
    }
}
