/** Promises 17 to 22: post(), more(), strike(), tell(), turn(), undo(). */
final class ActsTest {
    private static final int[] WRONG = {-1, 30, 100, Integer.MIN_VALUE, Integer.MAX_VALUE};
    private static final String BOOK = "account cash 10;account work 20;account finance 30;"
        + "journal 3 0 5 1 -5;journal 4 0 9 1 -4 2 -5;journal 5 0 1 1 1 2 1 0 -1 2 -2;";

    public static void main(String[] args) {
        checkPost();
        checkPostRefused();
        checkMore();
        checkMoreRefused();
        checkStrike();
        checkTell();
        checkTurn();
        checkUndoEach();
        checkTenAreKept();
        checkRefusedAreNotKept();
        Checks.finish();
    }

    private static void checkPost() {
        CashDeriver x = Checks.of(BOOK);
        Checks.due("post()", x.post(19, 2, 0, 99999), 3);
        Checks.due("post() of the least", x.post(0, 0, 1, 1), 4);
        int[][] due = {{0, 19}, {1, 2}, {2, 1}, {3, 1}, {4, 0}, {10, 2}, {11, 0}, {20, 99999}, {21, -99999}, {30, 0}, {31, 0}};
        for (int[] pair : due) {
            Checks.due("journal(3, " + pair[0] + ")", x.journal(3, pair[0]), pair[1]);
        }
        Checks.due("piece(3, 0, 0)", x.piece(3, 0, 0), 0);
        Checks.due("piece(3, 0, 1)", x.piece(3, 0, 1), 2);
        Checks.due("piece(3, 0, 2)", x.piece(3, 0, 2), 99999);
        Checks.due("now(1)", x.now(1), 5);
        Checks.due("now(4)", x.now(4), 2);
        Checks.due("balance(2, 19)", x.balance(2, 19), 30 - 5 - 1 + 99999);
    }

    private static void checkPostRefused() {
        CashDeriver x = Checks.of(BOOK);
        Checks.due("alike", x.post(0, 1, 1, 5), -1);
        Checks.due("amount 0", x.post(0, 0, 1, 0), -1);
        Checks.due("amount 100000", x.post(0, 0, 1, 100000), -1);
        Checks.due("amount -1", x.post(0, 0, 1, -1), -1);
        Checks.due("period 20", x.post(20, 0, 1, 1), -1);
        Checks.due("debited 3", x.post(0, 3, 1, 1), -1);
        Checks.due("credited 3", x.post(0, 0, 3, 1), -1);
        for (int wrong : WRONG) {
            Checks.due("period " + wrong, x.post(wrong, 0, 1, 1), -1);
            Checks.due("debited " + wrong, x.post(0, wrong, 1, 1), -1);
            Checks.due("credited " + wrong, x.post(0, 0, wrong, 1), -1);
        }
        Checks.due("now(1)", x.now(1), 3);
        Checks.due("now(4)", x.now(4), 0);
        for (int n = 3; n < 30; n++) {
            Checks.due("post " + n, x.post(n % 20, 0, 1, n), n);
        }
        Checks.due("a 31st", x.post(0, 0, 1, 1), -2);
        Checks.due("a 31st of a wrong amount", x.post(0, 0, 1, 0), -1);
        Checks.due("a 31st of accounts alike", x.post(0, 1, 1, 1), -1);
        Checks.due("a 31st of a wrong period", x.post(20, 0, 1, 1), -1);
        Checks.due("now(1)", x.now(1), 30);
        Checks.due("journal(29, 20)", x.journal(29, 20), 29);
    }

    private static void checkMore() {
        CashDeriver x = Checks.of(BOOK);
        Checks.due("more() to 4", x.more(0, 1, 2, 5), 4);
        Checks.due("groups", x.journal(0, 2), 2);
        int[][] due = {{0, 3}, {1, 4}, {12, 1}, {13, 2}, {22, 5}, {23, -5}, {30, 0}, {31, 0}, {32, 1}, {33, 1}};
        for (int[] pair : due) {
            Checks.due("journal(0, " + pair[0] + ")", x.journal(0, pair[0]), pair[1]);
        }
        Checks.due("more() to 6", x.more(0, 2, 0, 99999), 6);
        Checks.due("groups", x.journal(0, 2), 3);
        Checks.due("pieces", x.journal(0, 3), 3);
        Checks.due("piece(0, 2, 0)", x.piece(0, 2, 0), 0);
        Checks.due("piece(0, 2, 2)", x.piece(0, 2, 2), 99999);
        Checks.due("more() to 5", x.more(1, 2, 1, 4), 5);
        // 9 -4 -5 4 -4: the 9 and -4 -5 stay together, for the least row
        Checks.due("group of line 1", x.journal(1, 31), 0);
        Checks.due("group of line 3", x.journal(1, 33), 1);
        Checks.due("now(4)", x.now(4), 3);
        x.strike(1);
        Checks.due("a struck one with 5", x.more(1, 0, 1, 1), -2);
        CashDeriver struck = Checks.of(BOOK);
        struck.strike(0);
        Checks.due("more() of a struck one", struck.more(0, 1, 2, 7), 4);
        Checks.due("it stays struck", struck.journal(0, 4), 1);
        Checks.due("balance(1, 19)", struck.balance(1, 19), 20 - 4 + 1);
        // lines that come later may make another parting
        CashDeriver y = Checks.of("account cash 0;account work 0;journal 0 0 3 1 -1 1 -2;");
        y.more(0, 1, 0, 3);
        int[] row = {0, 0, 0, 1, 1};
        for (int k = 0; k < 5; k++) {
            Checks.due("y: group of line " + k, y.journal(0, 30 + k), row[k]);
        }
    }

    private static void checkMoreRefused() {
        CashDeriver x = Checks.of(BOOK);
        Checks.due("no journal 3", x.more(3, 0, 1, 1), -1);
        Checks.due("alike", x.more(0, 1, 1, 5), -1);
        Checks.due("amount 0", x.more(0, 0, 1, 0), -1);
        Checks.due("amount 100000", x.more(0, 0, 1, 100000), -1);
        Checks.due("debited 3", x.more(0, 3, 1, 1), -1);
        Checks.due("credited 3", x.more(0, 0, 3, 1), -1);
        for (int wrong : WRONG) {
            Checks.due("journal " + wrong, x.more(wrong, 0, 1, 1), -1);
            Checks.due("debited " + wrong, x.more(0, wrong, 1, 1), -1);
            Checks.due("credited " + wrong, x.more(0, 0, wrong, 1), -1);
        }
        Checks.due("5 lines", x.more(2, 0, 1, 1), -2);
        Checks.due("5 lines, accounts alike", x.more(2, 1, 1, 1), -1);
        Checks.due("5 lines, a wrong amount", x.more(2, 0, 1, 0), -1);
        x.more(0, 0, 1, 1);
        x.more(0, 0, 1, 1);
        Checks.due("6 lines", x.more(0, 0, 1, 1), -2);
        Checks.due("journal(2, 1)", x.journal(2, 1), 5);
        Checks.due("journal(0, 1)", x.journal(0, 1), 6);
        Checks.due("now(4)", x.now(4), 2);
    }

    private static void checkStrike() {
        CashDeriver x = Checks.of(BOOK);
        Checks.due("strike(1)", x.strike(1), 1);
        Checks.due("journal(1, 4)", x.journal(1, 4), 1);
        Checks.due("journal(0, 4)", x.journal(0, 4), 0);
        Checks.due("now(2)", x.now(2), 1);
        Checks.due("strike(2)", x.strike(2), 1);
        Checks.due("now(2)", x.now(2), 2);
        Checks.due("strike(1) again", x.strike(1), 0);
        Checks.due("now(2)", x.now(2), 1);
        Checks.due("now(4)", x.now(4), 3);
        Checks.due("strike(3)", x.strike(3), -1);
        for (int wrong : WRONG) {
            Checks.due("strike(" + wrong + ")", x.strike(wrong), -1);
        }
        Checks.due("now(4)", x.now(4), 3);
        // a journal that comes in the place of one undone is not struck
        x.post(0, 0, 1, 1);
        x.strike(3);
        x.undo();
        x.undo();
        Checks.due("post() in its place", x.post(0, 0, 1, 1), 3);
        Checks.due("journal(3, 4)", x.journal(3, 4), 0);
    }

    private static void checkTell() {
        CashDeriver x = Checks.of(BOOK);
        Checks.due("tell(0, 9999999)", x.tell(0, 9999999), true);
        Checks.due("told", x.account(0, 3), 9999999);
        Checks.due("tell(0, -9999999)", x.tell(0, -9999999), true);
        Checks.due("told in its place", x.account(0, 3), -9999999);
        Checks.due("residual", x.account(0, 4), -9999999 - 24);
        Checks.due("now(3)", x.now(3), 1);
        Checks.due("tell(2, 0)", x.tell(2, 0), true);
        Checks.due("now(3) with a balance of 0", x.now(3), 2);
        Checks.due("residual of 0", x.account(2, 4), -24);
        Checks.due("tell(0, 10000000)", x.tell(0, 10000000), false);
        Checks.due("tell(0, -10000000)", x.tell(0, -10000000), false);
        Checks.due("tell(0, MIN)", x.tell(0, Integer.MIN_VALUE), false);
        Checks.due("tell(0, MAX)", x.tell(0, Integer.MAX_VALUE), false);
        Checks.due("tell(3, 0)", x.tell(3, 0), false);
        for (int wrong : WRONG) {
            Checks.due("tell(" + wrong + ", 0)", x.tell(wrong, 0), false);
        }
        Checks.due("told as ahead", x.account(0, 3), -9999999);
        Checks.due("now(4)", x.now(4), 3);
    }

    private static void checkTurn() {
        CashDeriver x = Checks.of(BOOK);
        int was = 4;
        for (int kind = 5; kind >= 0; kind--) {
            Checks.due("turn(2, " + kind + ")", x.turn(2, kind), was);
            Checks.due("account(2, 0)", x.account(2, 0), kind);
            was = kind;
        }
        Checks.due("turn to what it is", x.turn(2, 0), 0);
        Checks.due("now(4)", x.now(4), 7);
        Checks.due("turn(0, 6)", x.turn(0, 6), -1);
        Checks.due("turn(3, 0)", x.turn(3, 0), -1);
        for (int wrong : WRONG) {
            Checks.due("turn(0, " + wrong + ")", x.turn(0, wrong), -1);
            Checks.due("turn(" + wrong + ", 0)", x.turn(wrong, 0), -1);
        }
        Checks.due("account(0, 0)", x.account(0, 0), 0);
        Checks.due("now(4)", x.now(4), 7);
    }

    private static void checkUndoEach() {
        CashDeriver x = Checks.of(BOOK);
        x.post(9, 0, 1, 6);
        x.more(3, 1, 2, 7);
        x.strike(3);
        x.tell(1, 77);
        x.tell(1, 88);
        x.turn(1, 5);
        Checks.due("undo() of turn()", x.undo(), 5);
        Checks.due("account(1, 0)", x.account(1, 0), 1);
        Checks.due("undo() of tell()", x.undo(), 4);
        Checks.due("account(1, 3)", x.account(1, 3), 77);
        Checks.due("undo() of the first tell()", x.undo(), 3);
        Checks.due("now(3)", x.now(3), 0);
        Checks.due("account(1, 4)", x.account(1, 4), 0);
        Checks.due("undo() of strike()", x.undo(), 2);
        Checks.due("journal(3, 4)", x.journal(3, 4), 0);
        Checks.due("journal(3, 3)", x.journal(3, 3), 2);
        Checks.due("undo() of more()", x.undo(), 1);
        Checks.due("journal(3, 1)", x.journal(3, 1), 2);
        Checks.due("journal(3, 2)", x.journal(3, 2), 1);
        Checks.due("journal(3, 3)", x.journal(3, 3), 1);
        Checks.due("piece(3, 1, 0)", x.piece(3, 1, 0), -1);
        Checks.dueNoSuchElement("journal(3, 12)", () -> x.journal(3, 12));
        Checks.due("undo() of post()", x.undo(), 0);
        Checks.due("now(1)", x.now(1), 3);
        Checks.dueNoSuchElement("journal(3, 0)", () -> x.journal(3, 0));
        Checks.due("balance(0, 19)", x.balance(0, 19), 24);
        Checks.due("undo() of none", x.undo(), -1);
        Checks.due("now(4)", x.now(4), 0);
        // the parting that more() changed comes back
        x.more(1, 2, 1, 4);
        x.undo();
        Checks.due("journal(1, 2)", x.journal(1, 2), 1);
        Checks.due("journal(1, 3)", x.journal(1, 3), 2);
        x.strike(0);
        x.strike(0);
        Checks.due("undo() of the second strike()", x.undo(), 1);
        Checks.due("struck again", x.journal(0, 4), 1);
    }

    private static void checkTenAreKept() {
        CashDeriver x = Checks.of(BOOK);
        for (int n = 0; n < 13; n++) {
            x.tell(0, n);
            Checks.due("now(4) behind " + (n + 1), x.now(4), Math.min(n + 1, 10));
        }
        for (int left = 9; left >= 0; left--) {
            Checks.due("undo()", x.undo(), left);
            Checks.due("told", x.account(0, 3), left + 2);
            Checks.due("now(4)", x.now(4), left);
        }
        Checks.due("undo() of the eleventh", x.undo(), -1);
        Checks.due("told stays", x.account(0, 3), 2);
        Checks.due("now(3) stays", x.now(3), 1);
        for (int n = 0; n < 12; n++) {
            x.post(0, 0, 1, 1);
        }
        int undone = 0;
        while (undone < 20 && x.undo() != -1) {
            undone++;
        }
        Checks.due("posts undone", undone, 10);
        Checks.due("now(1)", x.now(1), 5);
    }

    private static void checkRefusedAreNotKept() {
        CashDeriver x = Checks.of(BOOK);
        x.post(0, 0, 0, 1);
        x.more(2, 0, 1, 1);
        x.strike(3);
        x.tell(3, 0);
        x.turn(0, 6);
        Checks.due("now(4) behind refused ones", x.now(4), 0);
        Checks.due("undo() behind refused ones", x.undo(), -1);
        x.turn(0, 5);
        x.post(0, 0, 0, 1);
        x.balance(0, 0);
        x.traced();
        x.feed(1, 2, 3, 4, 5);
        x.end(0);
        Checks.due("undo() of the turn()", x.undo(), 0);
        Checks.due("account(0, 0)", x.account(0, 0), 0);
    }
}
