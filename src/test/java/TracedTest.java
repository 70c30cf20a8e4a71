/** Promise 16: traced(). */
final class TracedTest {
    private static final String ACCOUNTS = "account cash 0;account work 0;account finance 0;";

    public static void main(String[] args) {
        checkFewest();
        checkLeastBits();
        checkAllResiduals();
        checkStruck();
        checkManyLines();
        checkLatestJournals();
        Checks.finish();
    }

    /** Journals that debit account 0 and credit account 1 with these amounts. */
    private static CashDeriver posted(int... amounts) {
        CashDeriver x = Checks.of(ACCOUNTS);
        for (int amount : amounts) {
            if (amount > 0) {
                x.post(0, 0, 1, amount);
            } else {
                x.post(19, 1, 0, -amount);
            }
        }
        return x;
    }

    /** What is traced, if account 0 is told to have so much less than it has. */
    private static void traced(CashDeriver x, int less, int due) {
        x.tell(0, x.account(0, 2) - less);
        Checks.due("traced() of " + less, x.traced(), due);
    }

    private static void checkFewest() {
        CashDeriver x = posted(10, 4, 6, 1);
        Checks.due("nothing told", x.traced(), 0);
        traced(x, 0, 0);
        traced(x, 10, 1);
        traced(x, 4, 2);
        traced(x, 1, 8);
        traced(x, 5, 2 | 8);
        traced(x, 11, 1 | 8);
        traced(x, 16, 1 | 4);
        traced(x, 20, 1 | 2 | 4);
        traced(x, 17, 1 | 4 | 8);
        traced(x, 21, -1);
        traced(x, 2, -1);
        // no journal is taken twice
        traced(x, 22, -1);
        traced(x, 9, -1);
        traced(x, 8, -1);
        traced(x, 30, -1);
        traced(x, -10, -1);
        CashDeriver none = Checks.of(ACCOUNTS);
        traced(none, 0, 0);
        traced(none, 1, -1);
        traced(none, -1, -1);
        CashDeriver both = posted(10, -7, 3, -20);
        traced(both, -7, 2);
        traced(both, -17, 4 | 8);
        traced(both, -18, -1);
        traced(both, -10, 1 | 8);
        traced(both, 6, 1 | 2 | 4);
        traced(both, -4, 2 | 4);
        // what is 0 together explains nothing, and is not asked for
        traced(posted(5, -5, 8), 8, 4);
    }

    private static void checkLeastBits() {
        CashDeriver same = posted(5, 5, 5, 5);
        traced(same, 5, 1);
        traced(same, 10, 1 | 2);
        traced(same, 15, 1 | 2 | 4);
        traced(same, 20, -1);
        // the highest journal weighs the most
        traced(posted(1, 2, 3, 4), 5, 2 | 4);
        traced(posted(1, 2, 4, 8, 16, 25), 28, 4 | 8 | 16);
        traced(posted(1, 20, 30, 2, 9, 42, 10), 53, 8 | 16 | 32);
        traced(posted(1, 6, 2, 5, 20), 27, 1 | 2 | 16);
    }

    private static void checkAllResiduals() {
        CashDeriver x = Checks.of(ACCOUNTS + "journal 0 0 5 1 -5;journal 1 0 5 2 -5;journal 2 1 3 2 -3;");
        x.tell(0, 5);
        Checks.due("one residual", x.traced(), 1);
        x.tell(1, -2);
        Checks.due("account 1 is as told", x.traced(), 2);
        x.tell(2, -8);
        Checks.due("account 2 is as told too", x.traced(), -1);
        x.tell(2, -3);
        Checks.due("both of the second journal", x.traced(), 2);
        x.tell(0, 0);
        x.tell(1, 0);
        x.tell(2, 0);
        Checks.due("all of them", x.traced(), 7);
        x.tell(2, 1);
        Checks.due("no way", x.traced(), -1);
        x.turn(0, 3);
        x.tell(2, 0);
        Checks.due("kinds do not matter", x.traced(), 7);
        CashDeriver all = Checks.of("account cash 0;".repeat(12) + "journal 0 0 5 11 -5;journal 1 11 5 10 -5;");
        for (int account = 0; account < 12; account++) {
            all.tell(account, account == 0 ? 5 : account == 11 ? -5 : 0);
        }
        Checks.due("twelve accounts told", all.traced(), 2);
    }

    private static void checkStruck() {
        CashDeriver x = posted(5, 5, 5, 5);
        x.strike(0);
        traced(x, 5, 2);
        traced(x, 15, 2 | 4 | 8);
        x.strike(2);
        traced(x, 15, -1);
        traced(x, 10, 2 | 8);
        x.strike(1);
        Checks.due("struck as it was traced", x.traced(), 8);
        x.strike(3);
        Checks.due("all struck", x.traced(), 0);
        x.tell(0, 5);
        Checks.due("a struck one explains nothing", x.traced(), -1);
        // nothing stays from what was traced ahead
        CashDeriver again = posted(5, 7, 9);
        traced(again, 21, 1 | 2 | 4);
        again.strike(2);
        traced(again, 9, -1);
        traced(again, 14, -1);
        traced(again, 21, -1);
        again.strike(1);
        traced(again, 7, -1);
        traced(again, 5, 1);
    }

    private static void checkManyLines() {
        CashDeriver x = Checks.of(ACCOUNTS + "journal 0 0 5 0 2 1 -4 0 -3;journal 1 0 5 1 -5;journal 2 1 7 1 -7;");
        x.tell(0, 5);
        Checks.due("4 of many lines", x.traced(), 1);
        x.tell(1, -5);
        Checks.due("4 of both", x.traced(), 1);
        x.tell(1, -9);
        Checks.due("4 of one alone", x.traced(), -1);
    }

    private static void checkLatestJournals() {
        CashDeriver x = Checks.of(ACCOUNTS);
        for (int n = 0; n < 30; n++) {
            x.post(n % 20, 0, 1, n < 27 ? 1000 : 1 << n - 27);
        }
        traced(x, 4, 1 << 29);
        traced(x, 6, 1 << 29 | 1 << 28);
        traced(x, 7, 1 << 29 | 1 << 28 | 1 << 27);
        traced(x, 3000, 7);
        traced(x, 1007, -1);
    }
}
