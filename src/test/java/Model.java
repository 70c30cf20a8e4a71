import java.util.ArrayDeque;
import java.util.ArrayList;
import java.util.Arrays;
import java.util.Comparator;
import java.util.Deque;
import java.util.List;
import java.util.NoSuchElementException;
import java.util.regex.Matcher;
import java.util.regex.Pattern;

/**
 * The document's words once more, written another way: states that never change, kept whole for undo;
 * tokens by regular expressions; all ways to part a journal listed and sorted; all sets of journals tried.
 */
final class Model {
    private static final int NO_FIGURE = -100000000;
    private static final List<String> KINDS = List.of("cash", "work", "income", "invest", "finance", "currency");
    private static final Pattern TOKEN = Pattern.compile("[a-z0-9]+|[^a-z0-9]", Pattern.DOTALL);

    record Account(int kind, int first, Integer told) {
    }

    record Line(int account, int amount) {
    }

    record Piece(int credited, int debited, int moved) {
    }

    record Journal(int period, boolean struck, List<Line> lines) {
        int total(List<Integer> group) {
            return group.stream().mapToInt(k -> lines.get(k).amount()).sum();
        }

        boolean counts(int from, int to) {
            return !struck && from <= period && period <= to;
        }
    }

    record State(List<Account> accounts, List<Journal> journals) {
    }

    record Token(String word, int place) {
        boolean isNumber() {
            return word.matches("[0-9]{1,5}");
        }
    }

    private static final class Fault extends Exception {
        private static final long serialVersionUID = 1L;
        final int kind;
        final int place;

        Fault(int kind, int place) {
            this.kind = kind;
            this.place = place;
        }
    }

    private final StringBuilder tape = new StringBuilder();
    private final Deque<State> before = new ArrayDeque<>();
    private State state = new State(List.of(), List.of());
    private int fault = 0;
    private List<Token> tokens;

    int feed(int... five) {
        if (tape.length() + 20 > 640) {
            return -1;
        }
        for (int number : five) {
            for (int k = 3; k >= 0; k--) {
                tape.append((char) (number >>> 8 * k & 255));
            }
        }
        return tape.length();
    }

    boolean end(int n) {
        if (n < 0 || n > tape.length()) {
            return false;
        }
        tape.setLength(n);
        return true;
    }

    int text() {
        String whole = tape.toString();
        tape.setLength(0);
        try {
            state = parse(whole);
            before.clear();
            fault = 0;
            return state.accounts().size() + state.journals().size();
        } catch (Fault f) {
            fault = f.kind;
            return -1 - f.place;
        }
    }

    int fault() {
        return fault;
    }

    private State parse(String whole) throws Fault {
        tokens = new ArrayList<>();
        Matcher matcher = TOKEN.matcher(whole);
        while (matcher.find()) {
            if (matcher.start() < 600 && !matcher.group().matches("[ \n]")) {
                tokens.add(new Token(matcher.group(), matcher.start()));
            }
        }
        tokens.add(new Token("", Math.min(600, whole.length())));
        List<Account> accounts = new ArrayList<>();
        while (peek().word().equals("account")) {
            Token word = take();
            if (accounts.size() == 12) {
                throw new Fault(3, word.place());
            }
            Token kind = take();
            if (!KINDS.contains(kind.word())) {
                throw new Fault(1, kind.place());
            }
            accounts.add(new Account(KINDS.indexOf(kind.word()), amount(0), null));
            expect(";");
        }
        List<Journal> journals = new ArrayList<>();
        while (peek().word().equals("journal")) {
            Token word = take();
            if (journals.size() == 12) {
                throw new Fault(3, word.place());
            }
            journals.add(parseJournal(accounts.size()));
        }
        if (!peek().word().isEmpty() || whole.length() > 600) {
            throw new Fault(1, peek().place());
        }
        return new State(accounts, journals);
    }

    private Journal parseJournal(int accounts) throws Fault {
        int period = number(0, 19);
        List<Line> lines = new ArrayList<>();
        int sum = 0;
        while (lines.size() < 2 || !peek().word().equals(";")) {
            int place = peek().place();
            int account = number(0, accounts - 1);
            if (lines.size() == 6) {
                throw new Fault(3, place);
            }
            Line line = new Line(account, amount(1));
            sum += line.amount();
            lines.add(line);
        }
        Token last = take();
        if (sum != 0) {
            throw new Fault(4, last.place());
        }
        return new Journal(period, false, lines);
    }

    private Token peek() {
        return tokens.get(0);
    }

    private Token take() {
        return tokens.size() == 1 ? tokens.get(0) : tokens.remove(0);
    }

    private void expect(String sign) throws Fault {
        Token token = take();
        if (!token.word().equals(sign)) {
            throw new Fault(1, token.place());
        }
    }

    private int amount(int least) throws Fault {
        if (!peek().word().equals("-")) {
            return number(least, 99999);
        }
        take();
        return -number(least, 99999);
    }

    private int number(int least, int most) throws Fault {
        Token token = take();
        if (!token.isNumber()) {
            throw new Fault(1, token.place());
        }
        int value = Integer.parseInt(token.word());
        if (value < least || value > most) {
            throw new Fault(2, token.place());
        }
        return value;
    }

    int now(int what) {
        return switch (what) {
            case 0 -> state.accounts().size();
            case 1 -> state.journals().size();
            case 2 -> (int) state.journals().stream().filter(Journal::struck).count();
            case 3 -> (int) state.accounts().stream().filter(a -> a.told() != null).count();
            case 4 -> before.size();
            case 5 -> tape.length();
            default -> -1;
        };
    }

    private static boolean within(int n, int bound) {
        return 0 <= n && n < bound;
    }

    private boolean isAccount(int n) {
        return within(n, state.accounts().size());
    }

    private boolean isJournal(int n) {
        return within(n, state.journals().size());
    }

    private static boolean periods(int from, int to) {
        return within(from, 20) && within(to, 20) && from <= to;
    }

    int account(int n, int what) {
        if (!isAccount(n) || !within(what, 5)) {
            throw new NoSuchElementException();
        }
        Account account = state.accounts().get(n);
        return switch (what) {
            case 0 -> account.kind();
            case 1 -> account.first();
            case 2 -> balance(n, 19);
            case 3 -> account.told() == null ? 0 : account.told();
            default -> account.told() == null ? 0 : account.told() - balance(n, 19);
        };
    }

    int journal(int n, int what) {
        if (!isJournal(n)) {
            throw new NoSuchElementException();
        }
        Journal journal = state.journals().get(n);
        int lines = journal.lines().size();
        if (within(what, 5)) {
            int[] figures = {journal.period(), lines, parted(journal).size(), pieces(journal).size(), journal.struck() ? 1 : 0};
            return figures[what];
        }
        if (within(what - 10, lines)) {
            return journal.lines().get(what - 10).account();
        }
        if (within(what - 20, lines)) {
            return journal.lines().get(what - 20).amount();
        }
        if (within(what - 30, lines)) {
            return row(parted(journal))[what - 30];
        }
        throw new NoSuchElementException();
    }

    /** All ways to part lines from k on, given the groups of those ahead; groups in the order of their first lines. */
    private static void ways(Journal journal, int k, List<List<Integer>> groups, List<List<List<Integer>>> found) {
        if (k == journal.lines().size()) {
            if (groups.stream().allMatch(g -> journal.total(g) == 0)) {
                List<List<Integer>> copy = new ArrayList<>();
                groups.forEach(g -> copy.add(new ArrayList<>(g)));
                found.add(copy);
            }
            return;
        }
        List<Integer> own = new ArrayList<>(List.of(k));
        groups.add(own);
        ways(journal, k + 1, groups, found);
        groups.remove(groups.size() - 1);
        for (int g = groups.size() - 1; g >= 0; g--) {
            groups.get(g).add(k);
            ways(journal, k + 1, groups, found);
            groups.get(g).remove(groups.get(g).size() - 1);
        }
    }

    private static int[] row(List<List<Integer>> groups) {
        int[] row = new int[6];
        for (int g = 0; g < groups.size(); g++) {
            for (int k : groups.get(g)) {
                row[k] = g;
            }
        }
        return row;
    }

    private static List<List<Integer>> parted(Journal journal) {
        List<List<List<Integer>>> found = new ArrayList<>();
        ways(journal, 0, new ArrayList<>(), found);
        Comparator<List<List<Integer>>> fewer = Comparator.comparing(way -> -way.size());
        return found.stream().min(fewer.thenComparing(Model::row, Arrays::compare)).orElseThrow();
    }

    private static List<Piece> pieces(Journal journal) {
        List<Piece> pieces = new ArrayList<>();
        for (List<Integer> group : parted(journal)) {
            Deque<int[]> credits = new ArrayDeque<>();
            Deque<int[]> debits = new ArrayDeque<>();
            for (int k : group) {
                Line line = journal.lines().get(k);
                (line.amount() < 0 ? credits : debits).add(new int[] {line.account(), Math.abs(line.amount())});
            }
            while (!credits.isEmpty()) {
                int[] credit = credits.peek();
                int[] debit = debits.peek();
                int moved = Math.min(credit[1], debit[1]);
                pieces.add(new Piece(credit[0], debit[0], moved));
                credit[1] -= moved;
                debit[1] -= moved;
                credits.removeIf(c -> c[1] == 0);
                debits.removeIf(d -> d[1] == 0);
            }
        }
        return pieces;
    }

    private int kind(int account) {
        return state.accounts().get(account).kind();
    }

    private int sort(Piece piece) {
        int credited = kind(piece.credited());
        int debited = kind(piece.debited());
        if (credited == 0 && debited == 0) {
            return 5;
        }
        if (credited != 0 && debited != 0) {
            return 4;
        }
        int[] classes = {-1, 0, 0, 1, 2, 3};
        return classes[credited + debited];
    }

    int piece(int n, int k, int what) {
        if (!isJournal(n) || !within(k, pieces(state.journals().get(n)).size())) {
            return -1;
        }
        Piece piece = pieces(state.journals().get(n)).get(k);
        return switch (what) {
            case 0 -> piece.credited();
            case 1 -> piece.debited();
            case 2 -> piece.moved();
            case 3 -> sort(piece);
            default -> -1;
        };
    }

    private List<Piece> counting(int from, int to) {
        return state.journals().stream().filter(j -> j.counts(from, to)).flatMap(j -> pieces(j).stream()).toList();
    }

    private int credited(int kind, int from, int to) {
        return -state.journals().stream().filter(j -> j.counts(from, to)).flatMap(j -> j.lines().stream())
            .filter(l -> kind(l.account()) == kind).mapToInt(Line::amount).sum();
    }

    int direct(int sort, int from, int to, int what) {
        if (!within(sort, 4) || !periods(from, to) || !within(what, 3)) {
            return NO_FIGURE;
        }
        int in = 0;
        int out = 0;
        for (Piece piece : counting(from, to)) {
            if (sort(piece) == sort && kind(piece.debited()) == 0) {
                in += piece.moved();
            } else if (sort(piece) == sort) {
                out += piece.moved();
            }
        }
        return new int[] {in, out, in - out}[what];
    }

    int indirect(int from, int to, int what) {
        if (!periods(from, to) || !within(what, 4)) {
            return NO_FIGURE;
        }
        int profit = credited(2, from, to);
        int change = credited(1, from, to);
        int apart = 0;
        for (Piece piece : counting(from, to)) {
            int credited = kind(piece.credited());
            int debited = kind(piece.debited());
            if ((debited == 1 || debited == 2) && credited >= 3) {
                apart += piece.moved();
            }
            if ((credited == 1 || credited == 2) && debited >= 3) {
                apart -= piece.moved();
            }
        }
        return new int[] {profit + change + apart, profit, change, apart}[what];
    }

    int change(int from, int to) {
        if (!periods(from, to)) {
            return NO_FIGURE;
        }
        int more = 0;
        for (int n = 0; n < state.accounts().size(); n++) {
            if (kind(n) == 0) {
                more += balance(n, to) - (from == 0 ? state.accounts().get(n).first() : balance(n, from - 1));
            }
        }
        return more;
    }

    int makes(int sort, int from, int to) {
        if (!within(sort, 4) || !periods(from, to)) {
            return -1;
        }
        int bits = 0;
        for (int n = 0; n < state.journals().size(); n++) {
            Journal journal = state.journals().get(n);
            if (journal.counts(from, to) && pieces(journal).stream().anyMatch(p -> sort(p) == sort)) {
                bits += 1 << n;
            }
        }
        return bits;
    }

    int deals(int kind, int other, int from, int to) {
        if (kind < 1 || other > 5 || kind > other || !periods(from, to)) {
            return -1;
        }
        return counting(from, to).stream().filter(p -> sort(p) == 4)
            .filter(p -> kind(p.credited()) == kind && kind(p.debited()) == other
                || kind(p.credited()) == other && kind(p.debited()) == kind)
            .mapToInt(Piece::moved).sum();
    }

    int balance(int account, int period) {
        return isAccount(account) && within(period, 20) ? balanceWithout(account, period, 0) : NO_FIGURE;
    }

    private int balanceWithout(int account, int period, int bits) {
        int sum = state.accounts().get(account).first();
        for (int n = 0; n < state.journals().size(); n++) {
            Journal journal = state.journals().get(n);
            if (journal.counts(0, period) && (bits >> n & 1) == 0) {
                sum += journal.lines().stream().filter(l -> l.account() == account).mapToInt(Line::amount).sum();
            }
        }
        return sum;
    }

    private boolean explains(int bits) {
        for (int n = 0; n < state.accounts().size(); n++) {
            Integer told = state.accounts().get(n).told();
            if (told != null && told != balanceWithout(n, 19, bits)) {
                return false;
            }
        }
        return true;
    }

    int traced() {
        List<Integer> sets = new ArrayList<>(List.of(0));
        int count = state.journals().size();
        for (int a = 0; a < count; a++) {
            for (int b = 0; b < count; b++) {
                for (int c = 0; c < count; c++) {
                    sets.add(1 << a | 1 << b | 1 << c);
                }
            }
        }
        Comparator<Integer> fewer = Comparator.comparing(Integer::bitCount);
        return sets.stream().distinct().filter(this::allCount).sorted(fewer.thenComparing(Comparator.naturalOrder()))
            .filter(this::explains).findFirst().orElse(-1);
    }

    private boolean allCount(int bits) {
        for (int n = 0; n < state.journals().size(); n++) {
            if ((bits >> n & 1) == 1 && state.journals().get(n).struck()) {
                return false;
            }
        }
        return true;
    }

    private void become(List<Account> accounts, List<Journal> journals) {
        before.addLast(state);
        if (before.size() > 10) {
            before.removeFirst();
        }
        state = new State(accounts, journals);
    }

    private void becomeJournals(List<Journal> journals) {
        become(state.accounts(), journals);
    }

    private void replace(int n, Journal journal) {
        List<Journal> journals = new ArrayList<>(state.journals());
        journals.set(n, journal);
        becomeJournals(journals);
    }

    private void replace(int n, Account account) {
        List<Account> accounts = new ArrayList<>(state.accounts());
        accounts.set(n, account);
        become(accounts, state.journals());
    }

    private boolean transfer(int debited, int credited, int amount) {
        return isAccount(debited) && isAccount(credited) && debited != credited && amount >= 1 && amount <= 99999;
    }

    int post(int period, int debited, int credited, int amount) {
        if (!within(period, 20) || !transfer(debited, credited, amount)) {
            return -1;
        }
        if (state.journals().size() == 30) {
            return -2;
        }
        List<Journal> journals = new ArrayList<>(state.journals());
        journals.add(new Journal(period, false, List.of(new Line(debited, amount), new Line(credited, -amount))));
        becomeJournals(journals);
        return journals.size() - 1;
    }

    int more(int n, int debited, int credited, int amount) {
        if (!isJournal(n) || !transfer(debited, credited, amount)) {
            return -1;
        }
        Journal journal = state.journals().get(n);
        if (journal.lines().size() > 4) {
            return -2;
        }
        List<Line> lines = new ArrayList<>(journal.lines());
        lines.add(new Line(debited, amount));
        lines.add(new Line(credited, -amount));
        replace(n, new Journal(journal.period(), journal.struck(), lines));
        return lines.size();
    }

    int strike(int n) {
        if (!isJournal(n)) {
            return -1;
        }
        Journal journal = state.journals().get(n);
        replace(n, new Journal(journal.period(), !journal.struck(), journal.lines()));
        return journal.struck() ? 0 : 1;
    }

    boolean tell(int n, int balance) {
        if (!isAccount(n) || balance < -9999999 || balance > 9999999) {
            return false;
        }
        Account account = state.accounts().get(n);
        replace(n, new Account(account.kind(), account.first(), balance));
        return true;
    }

    int turn(int n, int kind) {
        if (!isAccount(n) || !within(kind, 6)) {
            return -1;
        }
        Account account = state.accounts().get(n);
        replace(n, new Account(kind, account.first(), account.told()));
        return account.kind();
    }

    int undo() {
        if (before.isEmpty()) {
            return -1;
        }
        state = before.removeLast();
        return before.size();
    }
}
