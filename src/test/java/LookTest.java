/** Promises 6 to 9: now(), account(), journal(), piece(); GROUPS and PIECES of the document's terms. */
final class LookTest {
    private static final int[] WRONG = {-1, Integer.MIN_VALUE, Integer.MAX_VALUE, 30, 1000};
    private static final String KINDS =
        "account cash 100;account work -20;account income 0;account invest 300;account finance -350;account currency 9;";

    public static void main(String[] args) {
        checkNow();
        checkAccount();
        checkJournal();
        checkWrongJournal();
        checkGroups();
        checkPieces();
        checkSorts();
        checkWrongPiece();
        Checks.finish();
    }

    private static void checkNow() {
        CashDeriver x = Checks.of(KINDS + "journal 2 0 5 1 -5;journal 3 0 5 1 -5;");
        x.strike(1);
        x.tell(4, 0);
        x.tell(4, 1);
        x.tell(2, 0);
        x.feed(1, 2, 3, 4, 5);
        int[] due = {6, 2, 1, 2, 4, 20};
        for (int what = 0; what < 6; what++) {
            Checks.due("now(" + what + ")", x.now(what), due[what]);
        }
        Checks.due("now(6)", x.now(6), -1);
        for (int what : WRONG) {
            Checks.due("now(" + what + ")", x.now(what), -1);
        }
    }

    private static void checkAccount() {
        CashDeriver x = Checks.of(KINDS + "journal 2 0 5 1 -5;journal 19 0 7 1 -4 2 -3;journal 0 1 2 1 -2;");
        int[][] due = {{0, 100, 112, 0, 0}, {1, -20, -29, 0, 0}, {2, 0, -3, 0, 0}, {3, 300, 300, 0, 0}, {4, -350, -350, 0, 0}, {5, 9, 9, 0, 0}};
        checkAccounts(x, due);
        x.tell(0, 112);
        x.tell(1, -30);
        x.tell(3, 0);
        due[0][3] = 112;
        due[1][3] = -30;
        due[1][4] = -1;
        due[3][4] = -300;
        checkAccounts(x, due);
        x.strike(1);
        due[0][2] = 105;
        due[0][4] = 7;
        due[1][2] = -25;
        due[1][4] = -5;
        due[2][2] = 0;
        checkAccounts(x, due);
        Checks.dueNoSuchElement("account(6, 0)", () -> x.account(6, 0));
        Checks.dueNoSuchElement("account(0, 5)", () -> x.account(0, 5));
        for (int wrong : WRONG) {
            Checks.dueNoSuchElement("account(" + wrong + ", 0)", () -> x.account(wrong, 0));
            Checks.dueNoSuchElement("account(0, " + wrong + ")", () -> x.account(0, wrong));
        }
    }

    private static void checkAccounts(CashDeriver x, int[][] due) {
        for (int n = 0; n < due.length; n++) {
            for (int what = 0; what < 5; what++) {
                Checks.due("account(" + n + ", " + what + ")", x.account(n, what), due[n][what]);
            }
        }
    }

    private static void checkJournal() {
        CashDeriver x = Checks.of(KINDS + "journal 17 3 2 5 2 0 -1 1 -1 2 -2;journal 0 4 99999 2 -99999;");
        int[] accounts = {3, 5, 0, 1, 2};
        int[] amounts = {2, 2, -1, -1, -2};
        int[] groups = {0, 1, 0, 0, 1};
        Checks.due("period", x.journal(0, 0), 17);
        Checks.due("lines", x.journal(0, 1), 5);
        Checks.due("groups", x.journal(0, 2), 2);
        Checks.due("pieces", x.journal(0, 3), 3);
        Checks.due("counts", x.journal(0, 4), 0);
        for (int k = 0; k < 5; k++) {
            Checks.due("account of line " + k, x.journal(0, 10 + k), accounts[k]);
            Checks.due("amount of line " + k, x.journal(0, 20 + k), amounts[k]);
            Checks.due("group of line " + k, x.journal(0, 30 + k), groups[k]);
        }
        Checks.due("journal(1, 0)", x.journal(1, 0), 0);
        Checks.due("journal(1, 1)", x.journal(1, 1), 2);
        Checks.due("journal(1, 20)", x.journal(1, 20), 99999);
        Checks.due("journal(1, 21)", x.journal(1, 21), -99999);
        x.strike(1);
        Checks.due("struck", x.journal(1, 4), 1);
        Checks.due("a struck one has lines", x.journal(1, 11), 2);
        Checks.due("a struck one has groups", x.journal(1, 2), 1);
        Checks.due("a struck one has pieces", x.journal(1, 3), 1);
    }

    private static void checkWrongJournal() {
        CashDeriver x = Checks.of(KINDS + "journal 17 3 2 5 2 0 -1 1 -1 2 -2;journal 0 4 1 2 -1;");
        for (int what = 5; what < 50; what++) {
            int asked = what;
            int line = what % 10;
            if (what < 10 || what >= 40 || line >= 5) {
                Checks.dueNoSuchElement("journal(0, " + what + ")", () -> x.journal(0, asked));
            }
            if (what < 10 || what >= 40 || line >= 2) {
                Checks.dueNoSuchElement("journal(1, " + what + ")", () -> x.journal(1, asked));
            }
        }
        Checks.dueNoSuchElement("journal(2, 0)", () -> x.journal(2, 0));
        Checks.dueNoSuchElement("journal(0, -10)", () -> x.journal(0, -10));
        for (int wrong : WRONG) {
            Checks.dueNoSuchElement("journal(" + wrong + ", 0)", () -> x.journal(wrong, 0));
            if (wrong != 30) {
                Checks.dueNoSuchElement("journal(0, " + wrong + ")", () -> x.journal(0, wrong));
            }
        }
    }

    /** A journal of these amounts, of accounts 0, 1, 2.. in order, must be parted so. */
    private static void parted(String amounts, String row) {
        StringBuilder text = new StringBuilder(KINDS).append("journal 0");
        String[] each = amounts.split(" ");
        for (int k = 0; k < each.length; k++) {
            text.append(' ').append(k).append(' ').append(each[k]);
        }
        CashDeriver x = Checks.of(text.append(';').toString());
        int highest = 0;
        for (int k = 0; k < each.length; k++) {
            int due = row.charAt(k) - '0';
            highest = Math.max(highest, due);
            Checks.due("group of line " + k + " of " + amounts, x.journal(0, 30 + k), due);
        }
        Checks.due("groups of " + amounts, x.journal(0, 2), highest + 1);
    }

    private static void checkGroups() {
        parted("5 -5", "00");
        parted("-5 5", "00");
        parted("3 -1 -2", "000");
        parted("1 1 -1 -1", "0101");
        parted("1 -1 1 -1", "0011");
        parted("1 -1 -1 1", "0011");
        parted("1 2 -1 -2", "0101");
        parted("1 2 -2 -1", "0110");
        parted("4 1 -2 -3", "0000");
        parted("2 2 -1 -1 -2", "01001");
        parted("2 -1 -1 2 -2", "00011");
        parted("2 -2 2 -1 -1", "00111");
        parted("3 3 -1 -2 -3", "01001");
        // the first balanced run is not the best group
        parted("1 2 -3 3 -1 -2", "012201");
        parted("1 1 -2 2 -1 -1", "012201");
        parted("3 -1 -2 1 2 -3", "012120");
        parted("1 1 1 -1 -1 -1", "012012");
        parted("5 1 2 -3 -4 -1", "010001");
        parted("4 4 -1 -3 -2 -2", "010011");
        parted("1 2 3 -6 7 -7", "000011");
        parted("99999 -1 -99998 99998 1 -99999", "012210");
        parted("5 4 3 -6 -5 -1", "011101");
    }

    private static void checkPieces() {
        CashDeriver x = Checks.of(KINDS + "journal 5 0 4 1 3 2 -5 3 -2;journal 0 3 2 5 2 0 -1 1 -1 2 -2;"
            + "journal 1 0 -6 1 1 2 2 3 3;journal 2 4 1 0 2 4 -2 1 -1;");
        // one group: 5 goes to 4 and 1 of 3, then 2 to what is left of 3
        checkPiece(x, 0, new int[][] {{2, 0, 4}, {2, 1, 1}, {3, 1, 2}});
        // two groups: all pieces of the first come ahead of those of the second
        checkPiece(x, 1, new int[][] {{0, 3, 1}, {1, 3, 1}, {2, 5, 2}});
        checkPiece(x, 2, new int[][] {{0, 1, 1}, {0, 2, 2}, {0, 3, 3}});
        // groups 0 1 1 0
        checkPiece(x, 3, new int[][] {{1, 4, 1}, {4, 0, 2}});
    }

    private static void checkPiece(CashDeriver x, int journal, int[][] due) {
        Checks.due("pieces of " + journal, x.journal(journal, 3), due.length);
        for (int k = 0; k < due.length; k++) {
            for (int what = 0; what < 3; what++) {
                Checks.due("piece(" + journal + ", " + k + ", " + what + ")", x.piece(journal, k, what), due[k][what]);
            }
        }
        for (int what = 0; what < 4; what++) {
            Checks.due("no piece behind the last", x.piece(journal, due.length, what), -1);
            Checks.due("no piece ahead of the first", x.piece(journal, -1, what), -1);
        }
    }

    /** Every pair of kinds, told by a piece from one account to another. */
    private static void checkSorts() {
        int[] classes = {5, 0, 0, 1, 2, 3};
        CashDeriver x = Checks.of("account cash 0;account cash 0;journal 0 0 1 1 -1;journal 0 0 1 0 -1;");
        for (int debited = 0; debited < 6; debited++) {
            for (int credited = 0; credited < 6; credited++) {
                x.turn(0, debited);
                x.turn(1, credited);
                int due = debited == 0 ? classes[credited] : credited == 0 ? classes[debited] : 4;
                Checks.due("sort of " + credited + " to " + debited, x.piece(0, 0, 3), due);
            }
            Checks.due("sort of an account to itself", x.piece(1, 0, 3), debited == 0 ? 5 : 4);
        }
    }

    private static void checkWrongPiece() {
        CashDeriver x = Checks.of(KINDS + "journal 5 0 4 1 3 2 -5 3 -2;");
        Checks.due("piece(1, 0, 0)", x.piece(1, 0, 0), -1);
        Checks.due("piece(0, 3, 0)", x.piece(0, 3, 0), -1);
        Checks.due("piece(0, 0, 4)", x.piece(0, 0, 4), -1);
        for (int wrong : WRONG) {
            Checks.due("piece(" + wrong + ", 0, 0)", x.piece(wrong, 0, 0), -1);
            Checks.due("piece(0, " + wrong + ", 0)", x.piece(0, wrong, 0), -1);
            Checks.due("piece(0, 0, " + wrong + ")", x.piece(0, 0, wrong), -1);
        }
        x.strike(0);
        Checks.due("a struck one has its pieces", x.piece(0, 2, 2), 2);
    }
}
