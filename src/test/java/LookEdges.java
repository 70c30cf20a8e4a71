/** Promises 6 to 9: now(), account(), journal(), piece(). */
final class LookEdges {
    private static final String NOW = "Promise 6: now";
    private static final String ACCOUNT = "Promise 7: account";
    private static final String JOURNAL = "Promise 8: journal";
    private static final String PIECE = "Promise 9: piece";
    private static final int MIN = Integer.MIN_VALUE;
    private static final int MAX = Integer.MAX_VALUE;
    /** Numbers that no account, journal, piece or figure has. */
    private static final int[] FAR = {-1, -2, -10, 40, 100, MIN, MIN + 1, MAX, MAX - 1};

    private LookEdges() {
    }

    private static CashDeriver full() {
        CashDeriver x = Checks.of("account cash 0;".repeat(12));
        for (int n = 0; n < 30; n++) {
            x.post(n % 20, n % 12, (n + 1) % 12, n + 1);
        }
        return x;
    }

    @Sentence(under = NOW, words = "0 ACCOUNTS, 1 JOURNALS, 2 STRUCK ones, 3 ACCOUNTS of which something is TOLD, "
        + "4 what can be undone, 5 bytes of the tape.")
    static void countsFromNoneToAll() {
        CashDeriver x = full();
        Checks.due("accounts", x.now(0), 12);
        Checks.due("journals", x.now(1), 30);
        for (int n = 0; n < 30; n++) {
            Checks.due("struck", x.now(2), n);
            x.strike(n);
        }
        Checks.due("all struck", x.now(2), 30);
        for (int n = 0; n < 12; n++) {
            Checks.due("told", x.now(3), n);
            x.tell(n, 0);
        }
        Checks.due("all told", x.now(3), 12);
        x.tell(0, 5);
        Checks.due("told twice is told once", x.now(3), 12);
        Checks.due("to be undone", x.now(4), 10);
        for (int n = 0; n < 32; n++) {
            Checks.due("bytes", x.now(5), 20 * n);
            x.feed(0, 0, 0, 0, 0);
        }
        Checks.due("a full tape", x.now(5), 640);
        x.strike(29);
        Checks.due("one counts again", x.now(2), 29);
    }

    @Sentence(under = NOW, words = "0 ACCOUNTS, 1 JOURNALS, 2 STRUCK ones, 3 ACCOUNTS of which something is TOLD, "
        + "4 what can be undone, 5 bytes of the tape.")
    static void countsOfANewObjectAreNone() {
        CashDeriver x = new CashDeriver();
        for (int what = 0; what <= 5; what++) {
            Checks.due("now(" + what + ")", x.now(what), 0);
        }
    }

    @Sentence(under = NOW, words = "NONE for another what.")
    static void anotherWhatOfNow() {
        Unchanged.by("now() of another what", x -> {
            Checks.due("now(0), the first", x.now(0), 4);
            Checks.due("now(5), the last", x.now(5), 37);
            Checks.due("now(6)", x.now(6), -1);
            for (int what : FAR) {
                Checks.due("now(" + what + ")", x.now(what), -1);
            }
        });
    }

    @Sentence(under = ACCOUNT, words = "Of an ACCOUNT 0 its KIND, 1 what it has at first, 2 BALANCE behind all PERIODS, "
        + "3 TOLD (0 without), 4 RESIDUAL.")
    static void figuresOfAnAccount() {
        CashDeriver x = Checks.of("account currency -99999;account cash 99999;journal 0 0 4 1 -4;journal 19 0 3 1 -3;");
        int[][] due = {{5, -99999, -99992, 0, 0}, {0, 99999, 99992, 0, 0}};
        checkAccounts(x, due);
        x.tell(0, 0);
        due[0][4] = 99992;
        checkAccounts(x, due);
        x.tell(1, 9999999);
        due[1][3] = 9999999;
        due[1][4] = 9999999 - 99992;
        checkAccounts(x, due);
        x.strike(1);
        due[0][2] = -99995;
        due[0][4] = 99995;
        due[1][2] = 99995;
        due[1][4] = 9999999 - 99995;
        checkAccounts(x, due);
    }

    private static void checkAccounts(CashDeriver x, int[][] due) {
        for (int account = 0; account < due.length; account++) {
            for (int what = 0; what < 5; what++) {
                Checks.due("account(" + account + ", " + what + ")", x.account(account, what), due[account][what]);
            }
        }
    }

    @Sentence(under = ACCOUNT, words = "NoSuchElementException: no such one, another what.")
    static void accountThrowsBeyondTheLast() {
        CashDeriver full = full();
        Checks.due("the twelfth", full.account(11, 0), 0);
        Checks.dueNoSuchElement("a thirteenth", () -> full.account(12, 0));
        Unchanged.by("account() that throws", x -> {
            Checks.due("the last", x.account(3, 1), 7);
            Checks.due("the last what", x.account(0, 4), 50 - 111);
            Checks.dueNoSuchElement("account(4, 0)", () -> x.account(4, 0));
            Checks.dueNoSuchElement("account(0, 5)", () -> x.account(0, 5));
            Checks.dueNoSuchElement("account(4, 5)", () -> x.account(4, 5));
            for (int wrong : FAR) {
                Checks.dueNoSuchElement("account(" + wrong + ", 0)", () -> x.account(wrong, 0));
                Checks.dueNoSuchElement("account(0, " + wrong + ")", () -> x.account(0, wrong));
            }
        });
    }

    @Sentence(under = JOURNAL, words = "Of a JOURNAL 0 its PERIOD, 1 how many LINES, 2 GROUPS, 3 PIECES, 4 1 if STRUCK, "
        + "10 and k the ACCOUNT of LINE k (from 0), 20 and k its AMOUNT, 30 and k its GROUP.")
    static void figuresOfAJournal() {
        CashDeriver x = Checks.of("account cash 0;".repeat(12)
            + "journal 19 11 3 10 2 9 1 8 -1 7 -2 6 -3;journal 0 0 1 1 -1;journal 5 0 4 1 1 2 -2 3 -3;");
        int[][] due = {{19, 6, 3, 3, 0}, {0, 2, 1, 1, 0}, {5, 4, 1, 3, 0}};
        int[][] accounts = {{11, 10, 9, 8, 7, 6}, {0, 1}, {0, 1, 2, 3}};
        int[][] amounts = {{3, 2, 1, -1, -2, -3}, {1, -1}, {4, 1, -2, -3}};
        int[][] groups = {{0, 1, 2, 2, 1, 0}, {0, 0}, {0, 0, 0, 0}};
        for (int round = 0; round < 2; round++) {
            for (int n = 0; n < 3; n++) {
                for (int what = 0; what < 5; what++) {
                    Checks.due("journal(" + n + ", " + what + ")", x.journal(n, what), due[n][what]);
                }
                for (int k = 0; k < accounts[n].length; k++) {
                    Checks.due("account of line " + k + " of " + n, x.journal(n, 10 + k), accounts[n][k]);
                    Checks.due("amount of line " + k + " of " + n, x.journal(n, 20 + k), amounts[n][k]);
                    Checks.due("group of line " + k + " of " + n, x.journal(n, 30 + k), groups[n][k]);
                }
                // a struck one has all of them too
                x.strike(n);
                due[n][4] = 1;
            }
        }
    }

    @Sentence(under = JOURNAL, words = "NoSuchElementException: no such one, another what.")
    static void journalThrowsBeyondTheLast() {
        CashDeriver full = full();
        Checks.due("the thirtieth", full.journal(29, 20), 30);
        Checks.dueNoSuchElement("a thirty-first", () -> full.journal(30, 0));
        CashDeriver none = Checks.of("account cash 0;");
        Checks.dueNoSuchElement("the first of none", () -> none.journal(0, 0));
        Unchanged.by("journal() that throws", x -> {
            Checks.dueNoSuchElement("journal(4, 0)", () -> x.journal(4, 0));
            for (int wrong : FAR) {
                Checks.dueNoSuchElement("journal(" + wrong + ", 0)", () -> x.journal(wrong, 0));
                Checks.dueNoSuchElement("journal(0, " + wrong + ")", () -> x.journal(0, wrong));
            }
        });
    }

    @Sentence(under = JOURNAL, words = "NoSuchElementException: no such one, another what.")
    static void journalThrowsForLinesThatItHasNot() {
        CashDeriver x = Checks.of("account cash 0;");
        for (int lines = 2; lines <= 6; lines++) {
            StringBuilder text = new StringBuilder("account cash 0;journal 0 0 ").append(lines - 1);
            Checks.read(x, text.append(" 0 -1".repeat(lines - 1)).append(';').toString());
            for (int what = 0; what < 50; what++) {
                int asked = what;
                int line = what % 10;
                if (what < 5 || what >= 10 && what < 40 && line < lines) {
                    Checks.due("journal(0, " + what + ") of " + lines + " lines", x.journal(0, what) >= -1, true);
                } else {
                    Checks.dueNoSuchElement("journal(0, " + what + ") of " + lines + " lines", () -> x.journal(0, asked));
                }
            }
        }
    }

    @Sentence(under = PIECE, words = "Of PIECE k (from 0) of a JOURNAL 0 the ACCOUNT credited, 1 the one debited, 2 how much, "
        + "3 its CLASS if it is of CASH, 4 if it is a DEAL, 5 if it is nothing.")
    static void figuresOfAPiece() {
        CashDeriver x = Checks.of("account cash 0;account work 0;account income 0;account invest 0;account finance 0;account currency 0;"
            + "account cash 0;journal 0 0 31 1 -1 2 -2 3 -4 4 -8 5 -16;journal 0 1 5 5 -5;journal 0 0 99999 6 -99999;");
        int[][] due = {{1, 0, 1, 0}, {2, 0, 2, 0}, {3, 0, 4, 1}, {4, 0, 8, 2}, {5, 0, 16, 3}};
        for (int k = 0; k < 5; k++) {
            for (int what = 0; what < 4; what++) {
                Checks.due("piece(0, " + k + ", " + what + ")", x.piece(0, k, what), due[k][what]);
            }
        }
        Checks.due("a deal", x.piece(1, 0, 3), 4);
        Checks.due("nothing", x.piece(2, 0, 3), 5);
        Checks.due("how much of nothing", x.piece(2, 0, 2), 99999);
        x.strike(0);
        Checks.due("of a struck one", x.piece(0, 4, 2), 16);
    }

    @Sentence(under = PIECE, words = "NONE: no such ones, another what.")
    static void noSuchPieces() {
        CashDeriver full = full();
        Checks.due("of the thirtieth journal", full.piece(29, 0, 2), 30);
        Checks.due("of a thirty-first", full.piece(30, 0, 2), -1);
        Unchanged.by("piece() refused", x -> {
            Checks.due("the last piece", x.piece(1, 2, 2), 2);
            Checks.due("one behind it", x.piece(1, 3, 2), -1);
            Checks.due("the last journal", x.piece(3, 1, 2), 6);
            Checks.due("one behind it", x.piece(4, 0, 2), -1);
            Checks.due("the last what", x.piece(0, 0, 3), 0);
            Checks.due("what 4", x.piece(0, 0, 4), -1);
            Checks.due("what 5", x.piece(0, 0, 5), -1);
            for (int wrong : FAR) {
                Checks.due("piece(" + wrong + ", 0, 2)", x.piece(wrong, 0, 2), -1);
                Checks.due("piece(0, " + wrong + ", 2)", x.piece(0, wrong, 2), -1);
                Checks.due("piece(0, 0, " + wrong + ")", x.piece(0, 0, wrong), -1);
            }
        });
    }
}
