/** Promises 10 to 15: direct(), indirect(), change(), makes(), deals(), balance(). */
final class FiguresTest {
    private static final int NO_FIGURE = -100000000;
    private static final int[] WRONG = {-1, 20, Integer.MIN_VALUE, Integer.MAX_VALUE};
    private static final String BOOK = "account cash 100;account work 20;account income 0;account invest 300;"
        + "account finance -350;account currency -5;account cash 0;"
        + "journal 0 0 80 2 -80;"           // income came in
        + "journal 1 1 50 2 -50;"           // a deal of work and income
        + "journal 2 3 40 1 10 0 -50;"      // invest and work went out
        + "journal 2 6 20 0 -20;"           // cash to cash
        + "journal 3 0 60 3 30 4 -90;"      // finance came in, a deal of invest and finance
        + "journal 4 5 7 0 -7;"             // currency went out
        + "journal 19 1 9 3 -9;";           // a deal of work and invest

    public static void main(String[] args) {
        checkDirect();
        checkWrongDirect();
        checkIndirect();
        checkChange();
        checkMakes();
        checkDeals();
        checkBalance();
        checkStruckDoNotCount();
        checkKindsAsTheyAreNow();
        checkGreatest();
        Checks.finish();
    }

    private static void direct(CashDeriver x, int sort, int from, int to, int in, int out) {
        String call = "direct(" + sort + ", " + from + ", " + to + ", ";
        Checks.due(call + "0)", x.direct(sort, from, to, 0), in);
        Checks.due(call + "1)", x.direct(sort, from, to, 1), out);
        Checks.due(call + "2)", x.direct(sort, from, to, 2), in - out);
    }

    private static void indirect(CashDeriver x, int from, int to, int profit, int change, int apart) {
        String call = "indirect(" + from + ", " + to + ", ";
        Checks.due(call + "0)", x.indirect(from, to, 0), profit + change + apart);
        Checks.due(call + "1)", x.indirect(from, to, 1), profit);
        Checks.due(call + "2)", x.indirect(from, to, 2), change);
        Checks.due(call + "3)", x.indirect(from, to, 3), apart);
        Checks.due(call + "0) is as direct", x.indirect(from, to, 0), x.direct(0, from, to, 2));
    }

    private static void checkDirect() {
        CashDeriver x = Checks.of(BOOK);
        direct(x, 0, 0, 19, 80, 10);
        direct(x, 1, 0, 19, 0, 40);
        direct(x, 2, 0, 19, 60, 0);
        direct(x, 3, 0, 19, 0, 7);
        direct(x, 0, 0, 0, 80, 0);
        direct(x, 0, 1, 2, 0, 10);
        direct(x, 0, 1, 1, 0, 0);
        direct(x, 1, 2, 2, 0, 40);
        direct(x, 1, 3, 19, 0, 0);
        direct(x, 2, 3, 3, 60, 0);
        direct(x, 2, 0, 2, 0, 0);
        direct(x, 3, 19, 19, 0, 0);
        x.post(5, 0, 5, 4);
        x.post(5, 4, 0, 9);
        x.post(5, 0, 3, 1);
        direct(x, 3, 0, 19, 4, 7);
        direct(x, 2, 0, 19, 60, 9);
        direct(x, 1, 0, 19, 1, 40);
    }

    private static void checkWrongDirect() {
        CashDeriver x = Checks.of(BOOK);
        Checks.due("direct(4, ..)", x.direct(4, 0, 19, 0), NO_FIGURE);
        Checks.due("direct(.., 3)", x.direct(0, 0, 19, 3), NO_FIGURE);
        Checks.due("direct(0, 1, 0, 0)", x.direct(0, 1, 0, 0), NO_FIGURE);
        Checks.due("indirect(1, 0, 0)", x.indirect(1, 0, 0), NO_FIGURE);
        Checks.due("indirect(.., 4)", x.indirect(0, 19, 4), NO_FIGURE);
        Checks.due("change(1, 0)", x.change(1, 0), NO_FIGURE);
        Checks.due("makes(4, ..)", x.makes(4, 0, 19), -1);
        Checks.due("makes(0, 1, 0)", x.makes(0, 1, 0), -1);
        Checks.due("deals(.., 1, 0)", x.deals(1, 2, 1, 0), -1);
        for (int wrong : WRONG) {
            Checks.due("direct, sort " + wrong, x.direct(wrong, 0, 19, 0), NO_FIGURE);
            Checks.due("direct, from " + wrong, x.direct(0, wrong, 19, 0), NO_FIGURE);
            Checks.due("direct, to " + wrong, x.direct(0, 0, wrong, 0), NO_FIGURE);
            Checks.due("direct, both " + wrong, x.direct(0, wrong, wrong, 0), NO_FIGURE);
            Checks.due("direct, what " + wrong, x.direct(0, 0, 19, wrong), NO_FIGURE);
            Checks.due("indirect, from " + wrong, x.indirect(wrong, 19, 0), NO_FIGURE);
            Checks.due("indirect, to " + wrong, x.indirect(0, wrong, 0), NO_FIGURE);
            Checks.due("indirect, what " + wrong, x.indirect(0, 19, wrong), NO_FIGURE);
            Checks.due("change, from " + wrong, x.change(wrong, 19), NO_FIGURE);
            Checks.due("change, to " + wrong, x.change(0, wrong), NO_FIGURE);
            Checks.due("makes, sort " + wrong, x.makes(wrong, 0, 19), -1);
            Checks.due("makes, from " + wrong, x.makes(0, wrong, 19), -1);
            Checks.due("makes, to " + wrong, x.makes(0, 0, wrong), -1);
            Checks.due("deals, kind " + wrong, x.deals(wrong, 2, 0, 19), -1);
            Checks.due("deals, other " + wrong, x.deals(1, wrong, 0, 19), -1);
            Checks.due("deals, from " + wrong, x.deals(1, 2, wrong, 19), -1);
            Checks.due("deals, to " + wrong, x.deals(1, 2, 0, wrong), -1);
            Checks.due("balance, account " + wrong, x.balance(wrong, 0), NO_FIGURE);
            Checks.due("balance, period " + wrong, x.balance(0, wrong), NO_FIGURE);
        }
    }

    private static void checkIndirect() {
        CashDeriver x = Checks.of(BOOK);
        indirect(x, 0, 19, 130, -69, 9);
        indirect(x, 0, 0, 80, 0, 0);
        indirect(x, 1, 1, 50, -50, 0);
        indirect(x, 2, 18, 0, -10, 0);
        indirect(x, 19, 19, 0, -9, 9);
        // income debited to currency credited, then work credited to finance debited
        x.post(7, 2, 5, 11);
        indirect(x, 7, 7, -11, 0, 11);
        x.post(7, 4, 1, 6);
        indirect(x, 7, 7, -11, 6, 5);
        x.post(7, 4, 2, 3);
        indirect(x, 7, 7, -8, 6, 2);
        // a deal among the operating, and one among the others, set nothing apart
        x.post(8, 1, 2, 5);
        x.post(8, 3, 5, 5);
        indirect(x, 8, 8, 5, -5, 0);
    }

    private static void checkChange() {
        CashDeriver x = Checks.of(BOOK);
        Checks.due("change(0, 19)", x.change(0, 19), 83);
        Checks.due("change(0, 0)", x.change(0, 0), 80);
        Checks.due("change(1, 1)", x.change(1, 1), 0);
        Checks.due("change(2, 2)", x.change(2, 2), -50);
        Checks.due("change(3, 4)", x.change(3, 4), 53);
        Checks.due("change(5, 19)", x.change(5, 19), 0);
        int all = 0;
        for (int sort = 0; sort < 4; sort++) {
            all += x.direct(sort, 1, 19, 2);
        }
        Checks.due("change(1, 19) is all classes", x.change(1, 19), all);
    }

    private static void checkMakes() {
        CashDeriver x = Checks.of(BOOK);
        int[] due = {1 | 4, 4, 16, 32};
        for (int sort = 0; sort < 4; sort++) {
            Checks.due("makes(" + sort + ", 0, 19)", x.makes(sort, 0, 19), due[sort]);
        }
        Checks.due("makes(0, 1, 19)", x.makes(0, 1, 19), 4);
        Checks.due("makes(0, 0, 1)", x.makes(0, 0, 1), 1);
        Checks.due("makes(2, 4, 19)", x.makes(2, 4, 19), 0);
        while (x.now(1) < 30) {
            x.post(6, 6, 3, 1);
        }
        Checks.due("makes(1, 6, 6) with journal 29", x.makes(1, 6, 6), (1 << 30) - (1 << 7));
    }

    private static void checkDeals() {
        CashDeriver x = Checks.of(BOOK);
        Checks.due("deals(1, 2, 0, 19)", x.deals(1, 2, 0, 19), 50);
        Checks.due("deals(3, 4, 0, 19)", x.deals(3, 4, 0, 19), 30);
        Checks.due("deals(1, 3, 0, 19)", x.deals(1, 3, 0, 19), 9);
        Checks.due("deals(1, 3, 0, 18)", x.deals(1, 3, 0, 18), 0);
        Checks.due("deals(5, 5, 0, 19)", x.deals(5, 5, 0, 19), 0);
        Checks.due("deals(2, 1, 0, 19)", x.deals(2, 1, 0, 19), -1);
        Checks.due("deals(0, 0, 0, 19)", x.deals(0, 0, 0, 19), -1);
        Checks.due("deals(0, 1, 0, 19)", x.deals(0, 1, 0, 19), -1);
        Checks.due("deals(1, 6, 0, 19)", x.deals(1, 6, 0, 19), -1);
        x.post(9, 2, 1, 5);
        Checks.due("deals(1, 2, 0, 19) both ways", x.deals(1, 2, 0, 19), 55);
        x.turn(2, 1);
        Checks.due("deals(1, 1, 0, 19)", x.deals(1, 1, 0, 19), 55);
        Checks.due("deals(1, 2, 0, 19) of none", x.deals(1, 2, 0, 19), 0);
        CashDeriver first = Checks.of("account work 0;account finance 0;journal 0 0 5 1 -5;");
        Checks.due("deals(1, 4, 0, 0) of journal 0", first.deals(1, 4, 0, 0), 5);
        indirect(first, 0, 0, 0, -5, 5);
    }

    private static void checkBalance() {
        CashDeriver x = Checks.of(BOOK);
        int[] cash = {180, 180, 110, 170, 163, 163};
        for (int period = 0; period < 6; period++) {
            Checks.due("balance(0, " + period + ")", x.balance(0, period), cash[period]);
        }
        Checks.due("balance(0, 19)", x.balance(0, 19), 163);
        Checks.due("balance(1, 18)", x.balance(1, 18), 80);
        Checks.due("balance(1, 19)", x.balance(1, 19), 89);
        Checks.due("balance(2, 19)", x.balance(2, 19), -130);
        Checks.due("balance(4, 2)", x.balance(4, 2), -350);
        Checks.due("balance(4, 3)", x.balance(4, 3), -440);
        Checks.due("balance(6, 19)", x.balance(6, 19), 20);
        Checks.due("balance(7, 0)", x.balance(7, 0), NO_FIGURE);
    }

    private static void checkStruckDoNotCount() {
        CashDeriver x = Checks.of(BOOK);
        x.strike(2);
        x.strike(4);
        x.strike(6);
        direct(x, 0, 0, 19, 80, 0);
        direct(x, 1, 0, 19, 0, 0);
        direct(x, 2, 0, 19, 0, 0);
        indirect(x, 0, 19, 130, -50, 0);
        Checks.due("change", x.change(0, 19), 73);
        Checks.due("makes(0)", x.makes(0, 0, 19), 1);
        Checks.due("makes(2)", x.makes(2, 0, 19), 0);
        Checks.due("deals(3, 4)", x.deals(3, 4, 0, 19), 0);
        Checks.due("balance", x.balance(0, 19), 153);
        x.strike(4);
        direct(x, 2, 0, 19, 60, 0);
        Checks.due("balance, counted again", x.balance(0, 19), 213);
    }

    private static void checkKindsAsTheyAreNow() {
        CashDeriver x = Checks.of(BOOK);
        x.turn(6, 4);
        direct(x, 2, 0, 19, 60, 20);
        Checks.due("change without account 6", x.change(0, 19), 63);
        x.turn(2, 0);
        direct(x, 0, 0, 19, 0, 60);
        indirect(x, 0, 19, 0, -69, 9);
        Checks.due("change with account 2", x.change(0, 19), -67);
    }

    private static void checkGreatest() {
        CashDeriver x = Checks.of("account cash 99999;account income -99999;");
        for (int n = 0; n < 30; n++) {
            x.post(n % 20, 0, 1, 99999);
            x.more(n, 0, 1, 99999);
            x.more(n, 0, 1, 99999);
        }
        direct(x, 0, 0, 19, 90 * 99999, 0);
        indirect(x, 0, 19, 90 * 99999, 0, 0);
        Checks.due("balance(0, 19)", x.balance(0, 19), 91 * 99999);
        Checks.due("makes(0, 0, 19)", x.makes(0, 0, 19), (1 << 30) - 1);
        x.tell(0, -9999999);
        Checks.due("residual", x.account(0, 4), -9999999 - 91 * 99999);
    }
}
