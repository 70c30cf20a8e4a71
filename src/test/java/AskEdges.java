/** Promises 10 to 16: direct(), indirect(), change(), makes(), deals(), balance(), traced(). */
final class AskEdges {
    private static final String DIRECT = "Promise 10: direct";
    private static final String INDIRECT = "Promise 11: indirect";
    private static final String CHANGE = "Promise 12: change";
    private static final String MAKES = "Promise 13: makes";
    private static final String DEALS = "Promise 14: deals";
    private static final String BALANCE = "Promise 15: balance";
    private static final String TRACED = "Promise 16: traced";

    private static final int NO_FIGURE = -100000000;
    private static final int MIN = Integer.MIN_VALUE;
    private static final int MAX = Integer.MAX_VALUE;
    /** Numbers that no class, kind, period, account or figure has. */
    private static final int[] FAR = {-1, -2, -20, 20, 21, 100, MIN, MIN + 1, MAX, MAX - 1};
    /** Pairs of periods that are none, or of which the second is ahead of the first. */
    private static final int[][] NO_PERIODS = {{-1, 0}, {-1, 19}, {0, 20}, {19, 20}, {20, 20}, {-1, -1}, {1, 0}, {19, 18}, {19, 0},
        {MIN, MAX}, {MIN, 19}, {0, MAX}, {MAX, MIN}, {MIN, MIN}, {MAX, MAX}, {20, 19}, {0, -1}};

    private static final String KINDS =
        "account cash 100;account work 20;account income 0;account invest 300;account finance -350;account currency -5;";
    /** In the first and in the last period there is something of every figure. */
    private static final String BOOK = KINDS + "journal 0 0 80 2 -80;journal 0 3 7 4 -7;journal 0 1 3 3 -3;"
        + "journal 19 1 40 0 -40;journal 19 0 9 4 -9;journal 19 5 2 2 -2;";

    private AskEdges() {
    }

    @Sentence(under = DIRECT, words = "DIRECT of a CLASS (0 to 3) of PERIODS from one to another: 0 IN, 1 OUT, 2 IN less OUT.")
    static void directOfTheFirstAndTheLast() {
        CashDeriver x = Checks.of(BOOK);
        int[][] due = {{0, 0, 19, 80, 40}, {0, 0, 0, 80, 0}, {0, 0, 18, 80, 0}, {0, 1, 19, 0, 40}, {0, 19, 19, 0, 40}, {0, 1, 18, 0, 0},
            {1, 0, 19, 0, 0}, {2, 0, 19, 9, 0}, {2, 0, 18, 0, 0}, {3, 0, 19, 0, 0}};
        for (int[] row : due) {
            String call = "direct(" + row[0] + ", " + row[1] + ", " + row[2] + ", ";
            Checks.due(call + "0)", x.direct(row[0], row[1], row[2], 0), row[3]);
            Checks.due(call + "1)", x.direct(row[0], row[1], row[2], 1), row[4]);
            Checks.due(call + "2)", x.direct(row[0], row[1], row[2], 2), row[3] - row[4]);
        }
        x.post(7, 0, 5, 6);
        x.post(7, 5, 0, 8);
        Checks.due("IN of class 3", x.direct(3, 7, 7, 0), 6);
        Checks.due("OUT of class 3", x.direct(3, 7, 7, 1), 8);
        Checks.due("IN less OUT of class 3", x.direct(3, 7, 7, 2), -2);
    }

    @Sentence(under = DIRECT, words = "NONE - 99999999: no such ones, the second is ahead of the first, another what.")
    static void directOfNoSuchOnes() {
        Unchanged.by("direct() refused", x -> {
            Checks.due("class 4", x.direct(4, 0, 19, 0), NO_FIGURE);
            Checks.due("what 3", x.direct(0, 0, 19, 3), NO_FIGURE);
            for (int wrong : FAR) {
                Checks.due("class " + wrong, x.direct(wrong, 0, 19, 0), NO_FIGURE);
                Checks.due("what " + wrong, x.direct(0, 0, 19, wrong), NO_FIGURE);
            }
            for (int[] pair : NO_PERIODS) {
                Checks.due("periods " + pair[0] + ", " + pair[1], x.direct(0, pair[0], pair[1], 0), NO_FIGURE);
            }
        });
        CashDeriver empty = new CashDeriver();
        Checks.due("class 4 of a new object", empty.direct(4, 0, 19, 0), NO_FIGURE);
        Checks.due("class 3 of a new object", empty.direct(3, 19, 19, 2), 0);
    }

    @Sentence(under = INDIRECT, words = "INDIRECT of PERIODS: 0 all three together, 1 PROFIT, 2 CHANGE, 3 APART.")
    static void indirectOfTheFirstAndTheLast() {
        CashDeriver x = Checks.of(BOOK);
        int[][] due = {{0, 19, 82, -43, 1}, {0, 0, 80, -3, 3}, {0, 18, 80, -3, 3}, {1, 18, 0, 0, 0}, {1, 19, 2, -40, -2}, {19, 19, 2, -40, -2}};
        for (int[] row : due) {
            String call = "indirect(" + row[0] + ", " + row[1] + ", ";
            Checks.due(call + "0)", x.indirect(row[0], row[1], 0), row[2] + row[3] + row[4]);
            for (int what = 1; what <= 3; what++) {
                Checks.due(call + what + ")", x.indirect(row[0], row[1], what), row[1 + what]);
            }
        }
    }

    @Sentence(under = INDIRECT, words = "NONE - 99999999: as for direct().")
    static void indirectOfNoSuchOnes() {
        Unchanged.by("indirect() refused", x -> {
            Checks.due("what 4", x.indirect(0, 19, 4), NO_FIGURE);
            for (int wrong : FAR) {
                Checks.due("what " + wrong, x.indirect(0, 19, wrong), NO_FIGURE);
            }
            for (int[] pair : NO_PERIODS) {
                Checks.due("periods " + pair[0] + ", " + pair[1], x.indirect(pair[0], pair[1], 0), NO_FIGURE);
            }
        });
    }

    @Sentence(under = CHANGE, words = "How much all ACCOUNTS of 'cash' have more behind a PERIOD than ahead of another one.")
    static void changeBehindOneAndAheadOfAnother() {
        CashDeriver x = Checks.of(BOOK);
        int[][] due = {{0, 19, 49}, {0, 0, 80}, {0, 18, 80}, {1, 18, 0}, {1, 19, -31}, {18, 18, 0}, {18, 19, -31}, {19, 19, -31}};
        for (int[] row : due) {
            Checks.due("change(" + row[0] + ", " + row[1] + ")", x.change(row[0], row[1]), row[2]);
        }
        x.turn(4, 0);
        Checks.due("two of cash", x.change(0, 19), 49 - 7 - 9);
        x.turn(0, 1);
        x.turn(4, 1);
        Checks.due("none of cash", x.change(0, 19), 0);
        // what it has at first is there ahead of period 0
        Checks.due("without journals", Checks.of("account cash 99999;").change(0, 19), 0);
    }

    @Sentence(under = CHANGE, words = "NONE - 99999999: as for direct().")
    static void changeOfNoSuchOnes() {
        Unchanged.by("change() refused", x -> {
            for (int[] pair : NO_PERIODS) {
                Checks.due("periods " + pair[0] + ", " + pair[1], x.change(pair[0], pair[1]), NO_FIGURE);
            }
        });
    }

    @Sentence(under = MAKES, words = "JOURNALS (bits) with a PIECE of CASH of a CLASS in PERIODS, that count.")
    static void makesOfTheFirstAndTheLast() {
        CashDeriver x = Checks.of(BOOK);
        int[][] due = {{0, 0, 19, 1 | 8}, {0, 0, 0, 1}, {0, 0, 18, 1}, {0, 1, 19, 8}, {0, 19, 19, 8}, {0, 1, 18, 0}, {1, 0, 19, 0},
            {2, 0, 19, 16}, {2, 0, 18, 0}, {3, 0, 19, 0}};
        for (int[] row : due) {
            Checks.due("makes(" + row[0] + ", " + row[1] + ", " + row[2] + ")", x.makes(row[0], row[1], row[2]), row[3]);
        }
        x.strike(0);
        Checks.due("one struck", x.makes(0, 0, 19), 8);
        for (int n = 6; n < 30; n++) {
            x.post(10, 5, 0, 1);
        }
        Checks.due("up to journal 29", x.makes(3, 10, 10), (1 << 30) - (1 << 6));
        x.more(1, 0, 5, 2);
        Checks.due("a piece among others", x.makes(3, 0, 0), 2);
    }

    @Sentence(under = MAKES, words = "NONE: as for direct().")
    static void makesOfNoSuchOnes() {
        Unchanged.by("makes() refused", x -> {
            Checks.due("class 4", x.makes(4, 0, 19), -1);
            for (int wrong : FAR) {
                Checks.due("class " + wrong, x.makes(wrong, 0, 19), -1);
            }
            for (int[] pair : NO_PERIODS) {
                Checks.due("periods " + pair[0] + ", " + pair[1], x.makes(0, pair[0], pair[1]), -1);
            }
        });
    }

    @Sentence(under = DEALS, words = "How much DEALS between two KINDS (1 to 5, the first lesser or alike) move in PERIODS, all together.")
    static void dealsOfTheFirstAndTheLast() {
        CashDeriver x = Checks.of(BOOK);
        int[][] due = {{3, 4, 0, 19, 7}, {3, 4, 0, 0, 7}, {3, 4, 1, 19, 0}, {1, 3, 0, 18, 3}, {2, 5, 0, 19, 2}, {2, 5, 0, 18, 0},
            {2, 5, 19, 19, 2}, {1, 1, 0, 19, 0}, {5, 5, 0, 19, 0}, {1, 5, 0, 19, 0}, {1, 2, 0, 19, 0}};
        for (int[] row : due) {
            String call = "deals(" + row[0] + ", " + row[1] + ", " + row[2] + ", " + row[3] + ")";
            Checks.due(call, x.deals(row[0], row[1], row[2], row[3]), row[4]);
        }
        x.post(5, 4, 3, 20);
        Checks.due("both ways together", x.deals(3, 4, 0, 19), 27);
        x.turn(4, 3);
        Checks.due("alike", x.deals(3, 3, 0, 19), 27);
        x.strike(1);
        Checks.due("those that count", x.deals(3, 3, 0, 19), 20);
        CashDeriver ends = Checks.of("account work 0;account work 0;account currency 0;account currency 0;");
        ends.post(0, 0, 1, 99999);
        ends.post(0, 2, 3, 1);
        ends.post(0, 2, 0, 5);
        Checks.due("deals(1, 1, ..)", ends.deals(1, 1, 0, 0), 99999);
        Checks.due("deals(5, 5, ..)", ends.deals(5, 5, 0, 0), 1);
        Checks.due("deals(1, 5, ..)", ends.deals(1, 5, 0, 0), 5);
    }

    @Sentence(under = DEALS, words = "NONE: no such ones, as for direct().")
    static void dealsOfNoSuchOnes() {
        Unchanged.by("deals() refused", x -> {
            for (int kind = -1; kind <= 7; kind++) {
                for (int other = -1; other <= 7; other++) {
                    if (kind < 1 || other > 5 || kind > other) {
                        Checks.due("kinds " + kind + ", " + other, x.deals(kind, other, 0, 19), -1);
                    }
                }
            }
            for (int wrong : FAR) {
                Checks.due("kind " + wrong, x.deals(wrong, 5, 0, 19), -1);
                Checks.due("other " + wrong, x.deals(1, wrong, 0, 19), -1);
                Checks.due("both " + wrong, x.deals(wrong, wrong, 0, 19), -1);
            }
            for (int[] pair : NO_PERIODS) {
                Checks.due("periods " + pair[0] + ", " + pair[1], x.deals(1, 2, pair[0], pair[1]), -1);
            }
        });
        CashDeriver cash = Checks.of("account cash 0;account work 0;account cash 0;journal 0 0 5 1 -5;journal 0 0 3 2 -3;");
        Checks.due("cash is no kind of a deal", cash.deals(0, 1, 0, 19), -1);
        Checks.due("cash alike", cash.deals(0, 0, 0, 19), -1);
    }

    @Sentence(under = BALANCE, words = "BALANCE of an ACCOUNT behind a PERIOD (0 to 19).")
    static void balanceOfTheFirstAndTheLast() {
        CashDeriver x = Checks.of(BOOK);
        int[][] due = {{0, 0, 180}, {0, 18, 180}, {0, 19, 149}, {5, 0, -5}, {5, 18, -5}, {5, 19, -3}};
        for (int[] row : due) {
            Checks.due("balance(" + row[0] + ", " + row[1] + ")", x.balance(row[0], row[1]), row[2]);
        }
        CashDeriver twelve = Checks.of("account cash 0;".repeat(11) + "account work -99999;");
        Checks.due("of the twelfth", twelve.balance(11, 0), -99999);
        Checks.due("of a thirteenth", twelve.balance(12, 0), NO_FIGURE);
    }

    @Sentence(under = BALANCE, words = "NONE - 99999999: no such ones.")
    static void balanceOfNoSuchOnes() {
        Unchanged.by("balance() refused", x -> {
            Checks.due("account 4", x.balance(4, 0), NO_FIGURE);
            Checks.due("period 20", x.balance(3, 20), NO_FIGURE);
            for (int wrong : FAR) {
                Checks.due("account " + wrong, x.balance(wrong, 0), NO_FIGURE);
                Checks.due("period " + wrong, x.balance(0, wrong), NO_FIGURE);
            }
        });
        Checks.due("without accounts", new CashDeriver().balance(0, 0), NO_FIGURE);
    }

    @Sentence(under = TRACED, words = "TRACED: JOURNALS (bits; 0: there is no RESIDUAL).")
    static void tracedIsZeroWithoutResidual() {
        CashDeriver x = Checks.of("account cash 0;account work 0;journal 0 0 5 1 -5;journal 19 0 3 1 -3;");
        Checks.due("nothing told", x.traced(), 0);
        x.tell(0, 8);
        Checks.due("told as it is", x.traced(), 0);
        x.tell(0, 3);
        Checks.due("journal 0", x.traced(), 1);
        x.tell(0, 5);
        Checks.due("journal 1, of the last period", x.traced(), 2);
        x.tell(0, 0);
        Checks.due("both", x.traced(), 3);
        x.undo();
        Checks.due("one again", x.traced(), 2);
        Checks.due("without accounts", new CashDeriver().traced(), 0);
    }

    @Sentence(under = TRACED, words = "NONE: by none.")
    static void tracedByNone() {
        CashDeriver x = Checks.of("account cash 0;account work 0;journal 0 0 5 1 -5;journal 19 0 3 1 -3;");
        int[] balances = {-1, 1, 2, 4, 6, 7, 9, 16, -8, 9999999, -9999999};
        for (int balance : balances) {
            x.tell(0, balance);
            Checks.due("told " + balance, x.traced(), -1);
        }
        Checks.due("balances stay", x.account(0, 2), 8);
        CashDeriver none = Checks.of("account cash 0;");
        none.tell(0, 1);
        Checks.due("no journals", none.traced(), -1);
        none.tell(0, 0);
        Checks.due("no journals needed", none.traced(), 0);
        Unchanged.by("traced() by none", y -> Checks.due("traced()", y.traced(), -1));
    }
}
