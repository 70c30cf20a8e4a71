import java.nio.charset.StandardCharsets;
import java.util.ArrayList;
import java.util.Arrays;
import java.util.List;
import java.util.NoSuchElementException;
import java.util.Random;

/** Runs of calls, made up from fixed seeds, on the class and on the model: both must answer alike. */
final class ModelTest {
    private static final int RUNS = 2800;
    /** No run goes on behind so many calls: with what the last turn makes an object has at most 512. */
    private static final int ENOUGH_CALLS = 330;
    private static final int[] WILD = {Integer.MIN_VALUE, Integer.MAX_VALUE, -2, -1, 0, 1, 6, 12, 19, 20, 30, 40, 600, 99999, 100000};
    private static final String[] WORDS = {"account", "journal", "cash", "work", "income", "invest", "finance", "currency"};
    private static final String[] ODD = {"-", ";", "0", "00000", "000000", "99999", "100000", "7", "12", "20", "a1", "1a", "x", "Z",
        "\t", "\r", "\0", "\u00e9", "accounts", "cas", "currencyx", "'", ".", "\n", " "};

    /** How often each fault came (0: a text without one), and each size of what is traced (4: none). */
    private static final int[] SEEN_FAULTS = new int[5];
    private static final int[] SEEN_TRACED = new int[5];
    private static final int[] SEEN_GROUPS = new int[4];

    private final Random random;
    private final int run;
    private final List<String> told = new ArrayList<>();
    private CashDeriver real = new CashDeriver();
    private Model model = new Model();
    private int accounts = 0;

    private ModelTest(int run) {
        this.run = run;
        this.random = new Random(run);
    }

    public static void main(String[] args) {
        for (int run = 0; run < RUNS && !Checks.anyWrong(); run++) {
            new ModelTest(run).go();
        }
        enough("faults", SEEN_FAULTS);
        enough("sizes traced", SEEN_TRACED);
        enough("groups", SEEN_GROUPS);
        Checks.finish();
    }

    /** Runs that never come upon a case would prove nothing of it. */
    private static void enough(String what, int[] seen) {
        System.out.println(what + " seen: " + Arrays.toString(seen));
        for (int n = 0; n < seen.length; n++) {
            if (seen[n] < 20 && !(what.equals("groups") && n == 0)) {
                Checks.complain("too few " + what + " of " + n);
            }
        }
    }

    private void go() {
        readText(random.nextInt(3) == 0);
        while (told.size() < ENOUGH_CALLS && !Checks.anyWrong()) {
            if (random.nextInt(80) == 0) {
                readText(random.nextBoolean());
            }
            if (random.nextInt(3) == 0) {
                act();
            } else {
                look();
            }
        }
    }

    private void same(String call, long got, long want) {
        told.add(call);
        Checks.due(call, got, want);
        if (got != want) {
            Checks.complain("in run " + run + " behind .. " + told.subList(Math.max(0, told.size() - 60), told.size()));
        }
    }

    private interface Figure {
        int tell();
    }

    private static long answer(Figure figure) {
        try {
            return figure.tell();
        } catch (NoSuchElementException e) {
            return Long.MIN_VALUE;
        }
    }

    private int upTo(int most) {
        return random.nextInt(most + 1);
    }

    /** A number that mostly fits. */
    private int pick(int bound) {
        if (random.nextInt(25) == 0) {
            return WILD[random.nextInt(WILD.length)];
        }
        return bound < 1 ? 0 : random.nextInt(bound);
    }

    private int pickAmount() {
        return random.nextInt(6) == 0 ? pick(100000) : 1 + pick(random.nextBoolean() ? 4 : 90);
    }

    private void readText(boolean spoilt) {
        String text = spoilt ? spoil(newText()) : newText();
        byte[] bytes = text.getBytes(StandardCharsets.ISO_8859_1);
        int size = Math.min(bytes.length, 640);
        same("end(0)", real.end(0) ? 1 : 0, model.end(0) ? 1 : 0);
        for (int at = 0; at < size; at += 20) {
            int[] f = new int[5];
            for (int k = 0; k < 5; k++) {
                f[k] = Checks.four(bytes, at + 4 * k);
            }
            same("feed", real.feed(f[0], f[1], f[2], f[3], f[4]), model.feed(f));
        }
        same("end(" + size + ")", real.end(size) ? 1 : 0, model.end(size) ? 1 : 0);
        same("now(5)", real.now(5), model.now(5));
        same("text() of " + text, real.text(), model.text());
        same("fault()", real.fault(), model.fault());
        SEEN_FAULTS[model.fault()]++;
        for (int what = 0; what < 6; what++) {
            same("now(" + what + ")", real.now(what), model.now(what));
        }
        accounts = model.now(0);
    }

    private String blank() {
        String[] blanks = {"", " ", " ", " ", "\n", "  "};
        return blanks[random.nextInt(blanks.length)];
    }

    private String newText() {
        StringBuilder text = new StringBuilder();
        boolean wide = random.nextInt(4) == 0;
        int count = 1 + upTo(random.nextInt(20) == 0 ? 12 : 8);
        for (int n = 0; n < count; n++) {
            text.append("account ").append(WORDS[2 + random.nextInt(6)]).append(blank().isEmpty() ? " " : "\n");
            text.append(random.nextInt(3) == 0 ? "-" : "").append(upTo(random.nextBoolean() ? 9 : 99999)).append(blank()).append(';');
        }
        int journals = upTo(random.nextInt(20) == 0 ? 13 : 9);
        for (int n = 0; n < journals; n++) {
            addJournal(text, count, wide);
        }
        while (wide && text.length() < 598 + upTo(6)) {
            text.append(random.nextInt(40) == 0 ? "\n" : " ");
        }
        return text.toString();
    }

    private void addJournal(StringBuilder text, int count, boolean wide) {
        int lines = 2 + upTo(4);
        int most = random.nextInt(4) == 0 ? 30000 : 1 + upTo(5);
        int sum = 0;
        int[] amounts = new int[lines];
        for (int k = 0; k < lines - 1; k++) {
            amounts[k] = (1 + random.nextInt(most)) * (random.nextBoolean() ? 1 : -1);
            sum += amounts[k];
        }
        amounts[lines - 1] = -sum;
        if (sum == 0) {
            amounts[0] += amounts[0] == 1 ? 1 : -1;
            amounts[lines - 1] = amounts[0] == 0 ? 0 : sum - (amounts[0] > 0 ? 1 : -1);
        }
        text.append("journal ").append(upTo(19)).append(' ');
        int at = random.nextInt(lines);
        for (int k = 0; k < lines; k++) {
            int amount = amounts[(k + at) % lines];
            text.append(random.nextInt(count)).append(amount < 0 ? wide ? "- " : blank() + "-" : " ").append(Math.abs(amount));
            text.append(k < lines - 1 ? " " : blank());
        }
        text.append(';').append(blank());
    }

    /** Changes a token's place or signs, so that texts have every fault. */
    private String spoil(String text) {
        StringBuilder changed = new StringBuilder(text);
        int at = 1 + upTo(text.length() - 2);
        int semicolon = changed.indexOf(";", at);
        switch (random.nextInt(11)) {
            case 9, 10 -> spoilNumber(changed, at);
            case 7 -> changed.insert(Math.max(semicolon, 0), " 0 2 0 -1 0 -1 0 2 0 -2");
            case 8 -> changed.insert(semicolon + 1, semicolon < 0 ? "" : text.substring(0, text.indexOf(";") + 1).repeat(upTo(13)));
            case 0 -> changed.setLength(at);
            case 1 -> changed.insert(at, ODD[random.nextInt(ODD.length)]);
            case 2 -> changed.insert(at, " " + ODD[random.nextInt(ODD.length)] + " ");
            case 3 -> changed.insert(at, WORDS[random.nextInt(WORDS.length)]);
            case 4 -> changed.deleteCharAt(at);
            case 5 -> changed.insert(at, " ".repeat(Math.max(0, 596 + upTo(8) - text.length())));
            default -> {
                for (int k = text.length(); k < 640; k++) {
                    changed.append(k < 590 ? ' ' : "journal 0 ;-".charAt(random.nextInt(12)));
                }
            }
        }
        return changed.toString();
    }

    /** Another number in place of the first that stands behind a place. */
    private void spoilNumber(StringBuilder text, int from) {
        int at = from;
        while (at < text.length() && !(Character.isDigit(text.charAt(at)) && text.charAt(at - 1) <= ' ')) {
            at++;
        }
        int end = at;
        while (end < text.length() && Character.isDigit(text.charAt(end))) {
            end++;
        }
        text.replace(at, end, ODD[2 + random.nextInt(8)]);
    }

    private void act() {
        int a = pick(accounts);
        int b = pick(accounts);
        int j = pick(model.now(1));
        int amount = pickAmount();
        int period = pick(20);
        int kind = pick(6);
        switch (random.nextInt(9)) {
            case 0, 1, 2 -> same("post(" + period + ", " + a + ", " + b + ", " + amount + ")",
                real.post(period, a, b, amount), model.post(period, a, b, amount));
            case 3 -> same("more(" + j + ", " + a + ", " + b + ", " + amount + ")",
                real.more(j, a, b, amount), model.more(j, a, b, amount));
            case 4 -> same("strike(" + j + ")", real.strike(j), model.strike(j));
            case 5 -> tellNear(a);
            case 6 -> same("turn(" + a + ", " + kind + ")", real.turn(a, kind), model.turn(a, kind));
            case 7 -> same("undo()", real.undo(), model.undo());
            default -> explain();
        }
        same("now(4)", real.now(4), model.now(4));
    }

    private void tellNear(int account) {
        int[] ends = {-10000000, -9999999, 9999999, 10000000, Integer.MIN_VALUE, Integer.MAX_VALUE, -100000000, 0};
        int balance = random.nextInt(5) == 0 || model.balance(account, 19) < -99999999
            ? ends[random.nextInt(ends.length)] : model.balance(account, 19) + upTo(4) - 2;
        same("tell(" + account + ", " + balance + ")", real.tell(account, balance) ? 1 : 0, model.tell(account, balance) ? 1 : 0);
    }

    /** Tells what would be so without a few journals, so that something can be traced. */
    private void explain() {
        if (accounts == 0 || model.now(1) == 0) {
            return;
        }
        int size = 1 + upTo(3);
        int[] struck = new int[size];
        for (int k = 0; k < size; k++) {
            struck[k] = random.nextInt(model.now(1));
            same("strike", real.strike(struck[k]), model.strike(struck[k]));
        }
        for (int k = 0; k <= size; k++) {
            int account = random.nextInt(accounts);
            int balance = model.balance(account, 19);
            same("tell(" + account + ", " + balance + ")", real.tell(account, balance) ? 1 : 0, model.tell(account, balance) ? 1 : 0);
        }
        for (int number : struck) {
            same("strike(" + number + ")", real.strike(number), model.strike(number));
        }
        trace();
    }

    private void trace() {
        int due = model.traced();
        same("traced()", real.traced(), due);
        SEEN_TRACED[due < 0 ? 4 : Integer.bitCount(due)]++;
    }

    private void look() {
        int a = pick(accounts);
        int j = pick(model.now(1));
        int from = pick(10);
        int to = random.nextInt(4) == 0 ? pick(20) : 19 - pick(10);
        int sort = pick(4);
        int what = pick(6);
        int figure = random.nextBoolean() ? what : 10 * (1 + upTo(2)) + upTo(7);
        int kind = pick(6);
        int other = pick(6);
        String periods = from + ", " + to;
        switch (random.nextInt(12)) {
            case 0 -> same("now(" + what + ")", real.now(what), model.now(what));
            case 1 -> same("account(" + a + ", " + what + ")", answer(() -> real.account(a, what)), answer(() -> model.account(a, what)));
            case 2 -> same("journal(" + j + ", " + figure + ")", answer(() -> real.journal(j, figure)), answer(() -> model.journal(j, figure)));
            case 3 -> same("piece(" + j + ", " + sort + ", " + what + ")", real.piece(j, sort, what), model.piece(j, sort, what));
            case 4 -> same("direct(" + sort + ", " + periods + ", " + what + ")", real.direct(sort, from, to, what), model.direct(sort, from, to, what));
            case 5 -> same("indirect(" + periods + ", " + what + ")", real.indirect(from, to, what), model.indirect(from, to, what));
            case 6 -> same("change(" + periods + ")", real.change(from, to), model.change(from, to));
            case 7 -> same("makes(" + sort + ", " + periods + ")", real.makes(sort, from, to), model.makes(sort, from, to));
            case 8 -> same("deals(" + kind + ", " + other + ", " + periods + ")", real.deals(kind, other, from, to), model.deals(kind, other, from, to));
            case 9 -> same("balance(" + a + ", " + to + ")", real.balance(a, to), model.balance(a, to));
            case 10 -> trace();
            default -> wholeJournal(j);
        }
        same("both alike", real.direct(0, from, to, 2), real.indirect(from, to, 0));
    }

    private void wholeJournal(int j) {
        if (j >= 0 && j < model.now(1)) {
            SEEN_GROUPS[model.journal(j, 2)]++;
        }
        for (int what = 0; what < 38; what++) {
            int figure = what;
            same("journal(" + j + ", " + what + ")", answer(() -> real.journal(j, figure)), answer(() -> model.journal(j, figure)));
        }
        for (int k = 0; k < 6; k++) {
            for (int what = 0; what < 4; what++) {
                same("piece(" + j + ", " + k + ", " + what + ")", real.piece(j, k, what), model.piece(j, k, what));
            }
        }
    }
}
