import java.nio.charset.StandardCharsets;
import java.util.NoSuchElementException;

/** What the tests share: answers that are due, texts fed as bytes, and the count of what is wrong. */
final class Checks {
    private static final int MOST_SHOWN = 40;
    private static int wrong = 0;
    private static int asked = 0;
    private static String test = "";

    private Checks() {
    }

    /** A call that may throw. */
    interface Call {
        long answer();
    }

    static void due(String call, long got, long want) {
        asked++;
        if (got != want) {
            complain(call + " answered " + got + ", due is " + want);
        }
    }

    static void due(String call, boolean got, boolean want) {
        due(call, got ? 1 : 0, want ? 1 : 0);
    }

    static void dueNoSuchElement(String name, Call call) {
        asked++;
        try {
            complain(name + " answered " + call.answer() + ", due is NoSuchElementException");
        } catch (NoSuchElementException e) {
            // as due
        }
    }

    /** What is said of the answers that come from here on. */
    static void begin(String newTest) {
        test = newTest;
    }

    static int asked() {
        return asked;
    }

    static void complain(String what) {
        wrong++;
        if (wrong <= MOST_SHOWN) {
            System.out.println(test + what);
        }
    }

    static boolean anyWrong() {
        return wrong > 0;
    }

    /** Puts the bytes of a text on the tape, whatever was there. */
    static void write(CashDeriver x, String text) {
        writeBytes(x, text.getBytes(StandardCharsets.ISO_8859_1));
    }

    static void writeBytes(CashDeriver x, byte[] bytes) {
        x.end(0);
        for (int at = 0; at < bytes.length; at += 20) {
            x.feed(four(bytes, at), four(bytes, at + 4), four(bytes, at + 8), four(bytes, at + 12), four(bytes, at + 16));
        }
        if (!x.end(bytes.length)) {
            throw new IllegalStateException("the tape can't hold " + bytes.length + " bytes");
        }
    }

    static int four(byte[] bytes, int at) {
        int number = 0;
        for (int k = at; k < at + 4; k++) {
            number = number << 8 | (k < bytes.length ? bytes[k] & 255 : 0);
        }
        return number;
    }

    static int read(CashDeriver x, String text) {
        write(x, text);
        return x.text();
    }

    /** A new object that has read a text, which must be one. */
    static CashDeriver of(String text) {
        CashDeriver x = new CashDeriver();
        int answer = read(x, text);
        if (answer < 0) {
            complain("no text: " + text + " answered " + answer + ", fault " + x.fault());
        }
        return x;
    }

    static void good(String text, int answer) {
        CashDeriver x = new CashDeriver();
        due("text() of " + text, read(x, text), answer);
        due("fault() behind " + text, x.fault(), 0);
        due("now(5) behind " + text, x.now(5), 0);
        due("accounts and journals of " + text, x.now(0) + x.now(1), answer);
    }

    static void bad(String text, int kind, int place) {
        CashDeriver x = new CashDeriver();
        due("text() of " + text, read(x, text), -1 - place);
        due("fault() behind " + text, x.fault(), kind);
        due("now(5) behind " + text, x.now(5), 0);
        due("now(0) behind " + text, x.now(0), 0);
        due("now(1) behind " + text, x.now(1), 0);
    }

    /** A text of so many bytes, with blanks between its head and its tail. */
    static String padded(String head, int size, String tail) {
        return head + " ".repeat(size - head.length() - tail.length()) + tail;
    }

    static void finish() {
        System.out.println(wrong == 0 ? asked + " answers are as due" : wrong + " of " + asked + " answers are not as due");
        if (wrong != 0) {
            System.exit(1);
        }
    }
}
