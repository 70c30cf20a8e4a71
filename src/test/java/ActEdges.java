/** Promises 17 to 21: post(), more(), strike(), tell(), turn(). */
final class ActEdges {
    private static final String POST = "Promise 17: post";
    private static final String MORE = "Promise 18: more";
    private static final String STRIKE = "Promise 19: strike";
    private static final String TELL = "Promise 20: tell";
    private static final String TURN = "Promise 21: turn";
    private static final int MIN = Integer.MIN_VALUE;
    private static final int MAX = Integer.MAX_VALUE;
    /** Numbers that no account, journal, kind or period has. */
    private static final int[] FAR = {-1, -2, 30, 31, 100, MIN, MIN + 1, MAX, MAX - 1};
    private static final int[] NO_AMOUNTS = {0, -1, -99999, 100000, 100001, MIN, MIN + 1, MAX, MAX - 1};

    private ActEdges() {
    }

    private static CashDeriver of30() {
        CashDeriver x = Unchanged.rich();
        while (x.now(1) < 30) {
            x.post(x.now(1) % 20, 0, 1, x.now(1));
        }
        return x;
    }

    private static void checkJournal(CashDeriver x, int journal, int... due) {
        Checks.due("lines of " + journal, x.journal(journal, 1), (due.length - 1) / 2);
        Checks.due("period of " + journal, x.journal(journal, 0), due[0]);
        for (int k = 0; 2 * k + 1 < due.length; k++) {
            Checks.due("account of line " + k, x.journal(journal, 10 + k), due[2 * k + 1]);
            Checks.due("amount of line " + k, x.journal(journal, 20 + k), due[2 * k + 2]);
        }
    }

    @Sentence(under = POST, words = "A JOURNAL of two LINES in a PERIOD, a debited ACCOUNT first, an other one credited (1 to 99999): its number.")
    static void postOfTheLeastAndTheGreatest() {
        CashDeriver x = Checks.of("account cash 0;".repeat(12));
        Checks.due("the first", x.post(0, 0, 11, 1), 0);
        Checks.due("the next", x.post(19, 11, 0, 99999), 1);
        Checks.due("one more", x.post(7, 5, 6, 99998), 2);
        checkJournal(x, 0, 0, 0, 1, 11, -1);
        checkJournal(x, 1, 19, 11, 99999, 0, -99999);
        checkJournal(x, 2, 7, 5, 99998, 6, -99998);
        Checks.due("groups", x.journal(1, 2), 1);
        Checks.due("pieces", x.journal(1, 3), 1);
        Checks.due("it counts", x.journal(1, 4), 0);
        Checks.due("credited", x.piece(1, 0, 0), 0);
        Checks.due("debited", x.piece(1, 0, 1), 11);
        Checks.due("to be undone", x.now(4), 3);
    }

    @Sentence(under = POST, words = "A JOURNAL of two LINES in a PERIOD, a debited ACCOUNT first, an other one credited (1 to 99999): its number.")
    static void postBehindATextOfTwelve() {
        CashDeriver x = Checks.of("account cash 0;account work 0;" + "journal 0 0 1 1 -1;".repeat(12));
        for (int n = 12; n < 30; n++) {
            Checks.due("post() " + n, x.post(0, 1, 0, n), n);
        }
        Checks.due("journals", x.now(1), 30);
        Checks.due("amount of the last", x.journal(29, 20), 29);
        checkJournal(x, 11, 0, 0, 1, 1, -1);
    }

    @Sentence(under = POST, words = "The first that is so: NONE: no such ones, alike, another AMOUNT")
    static void postOfNoSuchOnes() {
        Unchanged.by("post() refused", x -> {
            Checks.due("period 20", x.post(20, 0, 1, 1), -1);
            Checks.due("debited 4", x.post(0, 4, 1, 1), -1);
            Checks.due("credited 4", x.post(0, 0, 4, 1), -1);
            for (int account = 0; account < 5; account++) {
                Checks.due("alike " + account, x.post(0, account, account, 1), -1);
            }
            for (int wrong : FAR) {
                Checks.due("period " + wrong, x.post(wrong, 0, 1, 1), -1);
                Checks.due("debited " + wrong, x.post(0, wrong, 1, 1), -1);
                Checks.due("credited " + wrong, x.post(0, 0, wrong, 1), -1);
            }
            for (int amount : NO_AMOUNTS) {
                Checks.due("amount " + amount, x.post(0, 0, 1, amount), -1);
            }
        });
        Checks.due("without accounts", new CashDeriver().post(0, 0, 1, 1), -1);
        Checks.due("with one account", Checks.of("account cash 0;").post(0, 0, 0, 1), -1);
    }

    @Sentence(under = POST, words = "-2: there are 30.")
    static void postOfA31st() {
        Unchanged.by("post() of a 31st", ActEdges::of30, x -> {
            Checks.due("a 31st", x.post(0, 0, 1, 1), -2);
            Checks.due("a 31st of the greatest", x.post(19, 3, 0, 99999), -2);
            // what is first so is told
            Checks.due("no such period", x.post(20, 0, 1, 1), -1);
            Checks.due("no such account", x.post(0, 4, 1, 1), -1);
            Checks.due("alike", x.post(0, 1, 1, 1), -1);
            Checks.due("amount 0", x.post(0, 0, 1, 0), -1);
            Checks.due("amount 100000", x.post(0, 0, 1, 100000), -1);
        });
        CashDeriver y = of30();
        Checks.due("undo()", y.undo(), 9);
        Checks.due("there are 29", y.now(1), 29);
        Checks.due("the 30th again", y.post(0, 0, 1, 1), 29);
        Checks.due("a 31st again", y.post(0, 0, 1, 1), -2);
        y.strike(0);
        Checks.due("a struck one is there all the same", y.post(0, 0, 1, 1), -2);
    }

    @Sentence(under = MORE, words = "Two LINES come behind those of a JOURNAL, as in post(): how many LINES it has.")
    static void moreUpToSixLines() {
        CashDeriver x = Checks.of("account cash 0;account work 0;account finance 0;"
            + "journal 3 0 5 1 -5;journal 4 0 9 1 -4 2 -5;journal 5 0 1 1 2 2 -1 0 -2;");
        Checks.due("of 2", x.more(0, 1, 2, 99999), 4);
        checkJournal(x, 0, 3, 0, 5, 1, -5, 1, 99999, 2, -99999);
        Checks.due("of 4", x.more(0, 2, 0, 1), 6);
        checkJournal(x, 0, 3, 0, 5, 1, -5, 1, 99999, 2, -99999, 2, 1, 0, -1);
        Checks.due("groups", x.journal(0, 2), 3);
        Checks.due("pieces", x.journal(0, 3), 3);
        Checks.due("of 3", x.more(1, 2, 1, 4), 5);
        checkJournal(x, 1, 4, 0, 9, 1, -4, 2, -5, 2, 4, 1, -4);
        Checks.due("of 4 that a text told", x.more(2, 0, 1, 7), 6);
        checkJournal(x, 2, 5, 0, 1, 1, 2, 2, -1, 0, -2, 0, 7, 1, -7);
        Checks.due("to be undone", x.now(4), 4);
    }

    @Sentence(under = MORE, words = "Two LINES come behind those of a JOURNAL, as in post(): how many LINES it has.")
    static void moreOfTheLastAndOfAStruckOne() {
        CashDeriver x = of30();
        Checks.due("the thirtieth", x.more(29, 0, 1, 1), 4);
        int before = x.balance(3, 19);
        Checks.due("a struck one", x.more(1, 3, 1, 8), 6);
        Checks.due("it stays struck", x.journal(1, 4), 1);
        Checks.due("its lines do not count", x.balance(3, 19), before);
        x.strike(1);
        Checks.due("its lines count when it does", x.balance(3, 19), before - 2 + 8);
    }

    @Sentence(under = MORE, words = "The first that is so: NONE: no such JOURNAL, as post()")
    static void moreOfNoSuchOnes() {
        Unchanged.by("more() refused", x -> {
            Checks.due("journal 4", x.more(4, 0, 1, 1), -1);
            Checks.due("debited 4", x.more(0, 4, 1, 1), -1);
            Checks.due("credited 4", x.more(0, 0, 4, 1), -1);
            for (int account = 0; account < 5; account++) {
                Checks.due("alike " + account, x.more(0, account, account, 1), -1);
            }
            for (int wrong : FAR) {
                Checks.due("journal " + wrong, x.more(wrong, 0, 1, 1), -1);
                Checks.due("debited " + wrong, x.more(0, wrong, 1, 1), -1);
                Checks.due("credited " + wrong, x.more(0, 0, wrong, 1), -1);
            }
            for (int amount : NO_AMOUNTS) {
                Checks.due("amount " + amount, x.more(0, 0, 1, amount), -1);
            }
        });
        CashDeriver full = of30();
        Checks.due("a 31st", full.more(30, 0, 1, 1), -1);
        full.undo();
        Checks.due("a 30th, undone", full.more(29, 0, 1, 1), -1);
        Checks.due("without journals", Checks.of("account cash 0;account work 0;").more(0, 0, 1, 1), -1);
    }

    @Sentence(under = MORE, words = "-2: it has more than 4.")
    static void moreOfFiveLinesAndOfSix() {
        Unchanged.by("more() of five lines", x -> {
            Checks.due("5", x.more(2, 0, 1, 1), -2);
            // what is first so is told
            Checks.due("5, alike", x.more(2, 1, 1, 1), -1);
            Checks.due("5, no such account", x.more(2, 0, 4, 1), -1);
            Checks.due("5, amount 0", x.more(2, 0, 1, 0), -1);
            Checks.due("5, amount 100000", x.more(2, 0, 1, 100000), -1);
        });
        Unchanged.by("more() of six lines", () -> {
            CashDeriver x = Unchanged.rich();
            Checks.due("4 become 6", x.more(3, 0, 1, 2), 6);
            return x;
        }, x -> {
            Checks.due("6", x.more(3, 0, 1, 1), -2);
            Checks.due("6 of a text", x.more(3, 3, 2, 99999), -2);
        });
        CashDeriver y = Checks.of("account cash 0;account work 0;journal 0 0 1 1 -1 0 1 1 -1;journal 0 0 2 1 -1 1 -1 0 1 1 -1;");
        Checks.due("4 are not too many", y.more(0, 0, 1, 1), 6);
        Checks.due("5 are", y.more(1, 0, 1, 1), -2);
        y.undo();
        Checks.due("4 again, as it is undone", y.more(0, 0, 1, 1), 6);
    }

    @Sentence(under = STRIKE, words = "A JOURNAL is STRUCK, or counts again: 1, or 0.")
    static void strikeAndAgain() {
        CashDeriver x = of30();
        int[] journals = {0, 2, 29};
        for (int journal : journals) {
            Checks.due("strike(" + journal + ")", x.strike(journal), 1);
            Checks.due("struck", x.journal(journal, 4), 1);
            Checks.due("again", x.strike(journal), 0);
            Checks.due("counts", x.journal(journal, 4), 0);
            Checks.due("once more", x.strike(journal), 1);
        }
        Checks.due("struck ones, with journal 1", x.now(2), 4);
        Checks.due("one struck ahead", x.strike(1), 0);
        // all may be struck
        CashDeriver y = of30();
        y.strike(1);
        for (int n = 0; n < 30; n++) {
            Checks.due("strike(" + n + ")", y.strike(n), 1);
        }
        Checks.due("all struck", y.now(2), 30);
        Checks.due("balance as at first", y.balance(0, 19), 100);
    }

    @Sentence(under = STRIKE, words = "NONE: no such one.")
    static void strikeOfNoSuchOne() {
        Unchanged.by("strike() refused", x -> {
            Checks.due("strike(4)", x.strike(4), -1);
            for (int wrong : FAR) {
                Checks.due("strike(" + wrong + ")", x.strike(wrong), -1);
            }
        });
        Checks.due("a 31st", of30().strike(30), -1);
        Checks.due("of a new object", new CashDeriver().strike(0), -1);
        CashDeriver y = Checks.of("account cash 0;account work 0;");
        y.post(0, 0, 1, 1);
        y.undo();
        Checks.due("one whose post() is undone", y.strike(0), -1);
    }

    @Sentence(under = TELL, words = "A BALANCE of an ACCOUNT (-9999999 to 9999999) is TOLD, in place of one ahead: true.")
    static void tellTheLeastAndTheGreatest() {
        CashDeriver x = Checks.of("account cash 5;".repeat(12));
        int[] balances = {-9999999, -9999998, -1, 0, 1, 9999998, 9999999};
        for (int balance : balances) {
            Checks.due("tell(0, " + balance + ")", x.tell(0, balance), true);
            Checks.due("told", x.account(0, 3), balance);
            Checks.due("residual", x.account(0, 4), balance - 5);
            Checks.due("in place of one ahead", x.now(3), 1);
        }
        Checks.due("the last account", x.tell(11, 9999999), true);
        Checks.due("told of it", x.account(11, 3), 9999999);
        Checks.due("two", x.now(3), 2);
    }

    @Sentence(under = TELL, words = "False: no such one, another BALANCE.")
    static void tellOfNoSuchOne() {
        Unchanged.by("tell() refused", x -> {
            Checks.due("tell(4, 0)", x.tell(4, 0), false);
            for (int wrong : FAR) {
                Checks.due("tell(" + wrong + ", 0)", x.tell(wrong, 0), false);
            }
            int[] balances = {10000000, -10000000, 99999999, -99999999, -100000000, -100000001, MIN, MIN + 1, MAX, MAX - 1};
            for (int balance : balances) {
                Checks.due("tell(0, " + balance + ")", x.tell(0, balance), false);
                Checks.due("tell(1, " + balance + ")", x.tell(1, balance), false);
            }
        });
        Checks.due("a thirteenth", Checks.of("account cash 5;".repeat(12)).tell(12, 0), false);
        Checks.due("of a new object", new CashDeriver().tell(0, 0), false);
    }

    @Sentence(under = TURN, words = "KIND of an ACCOUNT (0 to 5) is so: what it was.")
    static void turnToEachKind() {
        CashDeriver x = Checks.of("account cash 5;".repeat(12));
        for (int was = 0; was < 6; was++) {
            for (int kind = 0; kind < 6; kind++) {
                x.turn(11, was);
                Checks.due("turn(11, " + kind + ") of " + was, x.turn(11, kind), was);
                Checks.due("kind", x.account(11, 0), kind);
                Checks.due("of another one", x.account(0, 0), 0);
            }
        }
        Checks.due("turn(0, 5)", x.turn(0, 5), 0);
        Checks.due("turn(0, 0)", x.turn(0, 0), 5);
    }

    @Sentence(under = TURN, words = "NONE: no such ones.")
    static void turnOfNoSuchOnes() {
        Unchanged.by("turn() refused", x -> {
            Checks.due("turn(4, 0)", x.turn(4, 0), -1);
            Checks.due("turn(0, 6)", x.turn(0, 6), -1);
            for (int wrong : FAR) {
                Checks.due("turn(" + wrong + ", 0)", x.turn(wrong, 0), -1);
                Checks.due("turn(0, " + wrong + ")", x.turn(0, wrong), -1);
            }
        });
        Checks.due("a thirteenth", Checks.of("account cash 5;".repeat(12)).turn(12, 0), -1);
        Checks.due("of a new object", new CashDeriver().turn(0, 0), -1);
    }
}
