/** Terms, its last part: DIRECT, INDIRECT, BALANCE, TOLD, RESIDUAL, TRACED, a new TEXT, a refused call. */
final class FigureEdges {
    private static final String TERMS = "Terms";
    private static final String KINDS =
        "account cash 0;account work 0;account income 0;account invest 0;account finance 0;account currency 0;";
    private static final String THREE = "account cash 0;account work 0;account finance 0;";

    private FigureEdges() {
    }

    @Sentence(under = TERMS, words = "DIRECT of PERIODS from one to another: "
        + "of a CLASS what came IN, what went OUT, of PIECES of CASH of JOURNALS that count.")
    static void directTakesBothEndsOfThePeriods() {
        // period n brings 1 << n of each class, so that a sum tells which periods are in it
        CashDeriver x = Checks.of(KINDS);
        for (int period = 0; period < 16; period++) {
            x.post(period + 2, 0, 1 + period % 5, 1 << period);
        }
        int[] classes = {0, 0, 1, 2, 3};
        for (int from = 0; from < 20; from += 3) {
            for (int to = from; to < 20; to += 2) {
                int[] due = new int[4];
                for (int period = 0; period < 16; period++) {
                    due[classes[period % 5]] += period + 2 >= from && period + 2 <= to ? 1 << period : 0;
                }
                for (int sort = 0; sort < 4; sort++) {
                    Checks.due("IN of " + sort + " from " + from + " to " + to, x.direct(sort, from, to, 0), due[sort]);
                }
            }
        }
    }

    @Sentence(under = TERMS, words = "INDIRECT: PROFIT: what ACCOUNTS of 'income' are credited less debited in LINES of these JOURNALS")
    static void profitIsOfIncomeAlone() {
        for (int kind = 0; kind < 6; kind++) {
            if (kind != 2) {
                CashDeriver x = Checks.of(KINDS + "journal 0 " + kind + " 9 2 -9;journal 1 2 4 " + kind + " -4;");
                Checks.due("income credited, of kind " + kind, x.indirect(0, 0, 1), 9);
                Checks.due("income debited, of kind " + kind, x.indirect(1, 1, 1), -4);
                Checks.due("both, of kind " + kind, x.indirect(0, 1, 1), 5);
            }
        }
        CashDeriver y = Checks.of(KINDS + "journal 0 2 9 2 -9;journal 0 0 1 1 -1;");
        Checks.due("income to itself, and others", y.indirect(0, 19, 1), 0);
        Checks.due("no journals", new CashDeriver().indirect(0, 19, 1), 0);
    }

    @Sentence(under = TERMS, words = "CHANGE: what ACCOUNTS of 'work' are credited less debited")
    static void changeIsOfWorkAlone() {
        for (int kind = 0; kind < 6; kind++) {
            if (kind != 1) {
                CashDeriver x = Checks.of(KINDS + "journal 0 " + kind + " 9 1 -9;journal 1 1 4 " + kind + " -4;");
                Checks.due("work credited, of kind " + kind, x.indirect(0, 0, 2), 9);
                Checks.due("work debited, of kind " + kind, x.indirect(1, 1, 2), -4);
                Checks.due("both, of kind " + kind, x.indirect(0, 1, 2), 5);
            }
        }
        CashDeriver y = Checks.of(KINDS + "journal 0 1 9 1 -9;journal 0 0 1 2 -1;");
        Checks.due("work to itself, and others", y.indirect(0, 19, 2), 0);
        Checks.due("no journals", new CashDeriver().indirect(0, 19, 2), 0);
    }

    @Sentence(under = TERMS, words = "APART: of DEALS between one of 'work' or 'income' and one of 'invest', 'finance', 'currency': "
        + "what the first is debited less credited")
    static void apartIsOfDealsBetweenTheTwoSides() {
        for (int debited = 0; debited < 6; debited++) {
            for (int credited = 0; credited < 6; credited++) {
                CashDeriver x = Checks.of("account cash 0;account cash 0;journal 0 0 7 1 -7;");
                x.turn(0, debited);
                x.turn(1, credited);
                boolean first = debited == 1 || debited == 2;
                boolean second = credited == 1 || credited == 2;
                int due = first && credited >= 3 ? 7 : second && debited >= 3 ? -7 : 0;
                Checks.due("APART of " + credited + " to " + debited, x.indirect(0, 0, 3), due);
            }
        }
    }

    @Sentence(under = TERMS, words = "these three together.")
    static void allThreeTogetherAreAsDirect() {
        for (int debited = 0; debited < 6; debited++) {
            for (int credited = 0; credited < 6; credited++) {
                CashDeriver x = Checks.of("account cash 0;account cash 0;journal 0 0 99999 1 -99999;");
                x.turn(0, debited);
                x.turn(1, credited);
                String pair = " of " + credited + " to " + debited;
                int together = x.indirect(0, 0, 1) + x.indirect(0, 0, 2) + x.indirect(0, 0, 3);
                Checks.due("all three" + pair, x.indirect(0, 0, 0), together);
                Checks.due("as direct" + pair, x.indirect(0, 0, 0), x.direct(0, 0, 0, 2));
            }
        }
    }

    @Sentence(under = TERMS, words = "BALANCE of an ACCOUNT behind a PERIOD: what it has at first and all LINES of it in JOURNALS "
        + "that count up to that PERIOD, debited ones above 0.")
    static void balanceGoesUpToThePeriod() {
        for (int period = 0; period < 20; period++) {
            CashDeriver x = Checks.of("account cash -5;account work 6;");
            x.post(period, 0, 1, 100);
            for (int behind = 0; behind < 20; behind++) {
                int moved = behind >= period ? 100 : 0;
                Checks.due("balance debited in " + period + " behind " + behind, x.balance(0, behind), -5 + moved);
                Checks.due("balance credited in " + period + " behind " + behind, x.balance(1, behind), 6 - moved);
            }
        }
    }

    @Sentence(under = TERMS, words = "BALANCE of an ACCOUNT behind a PERIOD: what it has at first and all LINES of it in JOURNALS "
        + "that count up to that PERIOD, debited ones above 0.")
    static void balanceTakesAllLinesOfIt() {
        CashDeriver x = Checks.of(THREE + "journal 0 0 4 1 -1 0 -2 2 -1 0 1 1 -1;");
        Checks.due("three lines of one journal", x.balance(0, 0), 3);
        Checks.due("two lines", x.balance(1, 0), -2);
        Checks.due("one line", x.balance(2, 0), -1);
        // the greatest and the least that thirty journals make
        CashDeriver most = Checks.of("account cash 99999;account work -99999;");
        for (int n = 0; n < 30; n++) {
            most.post(n % 20, 0, 1, 99999);
            most.more(n, 0, 1, 99999);
            most.more(n, 0, 1, 99999);
        }
        Checks.due("the greatest", most.balance(0, 19), 91 * 99999);
        Checks.due("the least", most.balance(1, 19), -91 * 99999);
    }

    @Sentence(under = TERMS, words = "TOLD of an ACCOUNT: a BALANCE behind all PERIODS that was told (none at first).")
    static void noneIsToldAtFirst() {
        CashDeriver x = Checks.of("account cash 5;account work 0;");
        Checks.due("now(3)", x.now(3), 0);
        Checks.due("told", x.account(0, 3), 0);
        Checks.due("traced", x.traced(), 0);
        x.tell(1, 0);
        Checks.due("now(3) behind a balance of 0", x.now(3), 1);
        x.post(19, 0, 1, 3);
        Checks.due("of the last period too", x.account(1, 4), 3);
    }

    @Sentence(under = TERMS, words = "RESIDUAL: TOLD less BALANCE; 0 without.")
    static void residualIsToldLessBalance() {
        CashDeriver x = Checks.of("account cash 5;account work -7;journal 0 0 1 1 -1;");
        Checks.due("without", x.account(0, 4), 0);
        x.tell(0, 7);
        Checks.due("one more", x.account(0, 4), 1);
        x.tell(0, 6);
        Checks.due("as it is", x.account(0, 4), 0);
        x.tell(0, 5);
        Checks.due("one less", x.account(0, 4), -1);
        x.tell(0, 0);
        Checks.due("told to be 0", x.account(0, 4), -6);
        Checks.due("of the other one, without", x.account(1, 4), 0);
        x.undo();
        x.undo();
        x.undo();
        x.undo();
        Checks.due("without again", x.account(0, 4), 0);
    }

    /** Journals that debit account 0 with these amounts, which is told to have so much less than it has. */
    private static int tracedOf(int less, int... amounts) {
        CashDeriver x = Checks.of(THREE);
        for (int amount : amounts) {
            x.post(7, amount > 0 ? 0 : 1, amount > 0 ? 1 : 0, Math.abs(amount));
        }
        x.tell(0, x.account(0, 2) - less);
        return x.traced();
    }

    @Sentence(under = TERMS, words = "TRACED: the fewest JOURNALS that count, 3 at most, without which no RESIDUAL were anything but 0")
    static void threeJournalsAtMost() {
        Checks.due("none is needed", tracedOf(0, 1, 10, 100, 1000), 0);
        Checks.due("one", tracedOf(1000, 1, 10, 100, 1000), 8);
        Checks.due("two", tracedOf(1001, 1, 10, 100, 1000), 9);
        Checks.due("three", tracedOf(1110, 1, 10, 100, 1000), 14);
        Checks.due("four are too many", tracedOf(1111, 1, 10, 100, 1000), -1);
        Checks.due("one below 0", tracedOf(-10, 1, -10, 100), 2);
        Checks.due("of both signs", tracedOf(91, 1, -10, 100), 7);
    }

    @Sentence(under = TERMS, words = "TRACED: the fewest JOURNALS that count, 3 at most, without which no RESIDUAL were anything but 0")
    static void theFewestEvenIfTheirBitsAreMore() {
        Checks.due("one of greater bits than two", tracedOf(3, 1, 2, 3), 4);
        Checks.due("one of greater bits than three", tracedOf(6, 1, 2, 3, 6), 8);
        Checks.due("two of greater bits than three", tracedOf(6, 1, 2, 3, 50, 56, -50), 48);
        Checks.due("none is taken that is not needed", tracedOf(8, 5, -5, 8), 4);
    }

    @Sentence(under = TERMS, words = "TRACED: the fewest JOURNALS that count, 3 at most, without which no RESIDUAL were anything but 0")
    static void noJournalIsTakenTwice() {
        int[][] orders = {{1, 10, 100}, {100, 10, 1}, {10, 100, 1}, {1, 100, 10}};
        int[] sums = {2, 3, 20, 30, 200, 300, 12, 21, 102, 120, 201, 210};
        for (int[] amounts : orders) {
            for (int less : sums) {
                Checks.due(less + " of three journals", tracedOf(less, amounts), -1);
            }
            Checks.due("all three", tracedOf(111, amounts), 7);
        }
    }

    @Sentence(under = TERMS, words = "TRACED: the fewest JOURNALS that count, 3 at most, without which no RESIDUAL were anything but 0")
    static void thoseThatCountAlone() {
        CashDeriver x = Checks.of(THREE);
        for (int n = 0; n < 5; n++) {
            x.post(n, 0, 1, 5);
        }
        x.strike(0);
        x.tell(0, 15);
        Checks.due("not the struck one", x.traced(), 2);
        x.strike(2);
        x.tell(0, 5);
        Checks.due("not the two struck ones", x.traced(), 2 | 8);
        x.tell(0, 0);
        Checks.due("all that count", x.traced(), 2 | 8 | 16);
        x.strike(1);
        x.strike(3);
        Checks.due("the last that counts", x.traced(), 16);
        x.tell(0, -5);
        Checks.due("a struck one can't be without", x.traced(), -1);
        x.strike(4);
        Checks.due("none counts", x.traced(), -1);
        x.tell(0, 0);
        Checks.due("none counts, and none is needed", x.traced(), 0);
    }

    @Sentence(under = TERMS, words = "TRACED: the fewest JOURNALS that count, 3 at most, without which no RESIDUAL were anything but 0")
    static void nothingStaysFromWhatWasTracedAhead() {
        for (int struck = 0; struck < 4; struck++) {
            CashDeriver x = Checks.of(THREE + "journal 0 0 1 1 -1;journal 0 0 10 1 -10;journal 0 0 100 1 -100;journal 0 0 1000 2 -1000;");
            x.tell(0, 0);
            x.tell(1, 0);
            Checks.due("four are too many", x.traced(), -1);
            // fewer journals and fewer accounts than were looked at ahead
            x.undo();
            int[] amounts = {1, 10, 100, 1000};
            for (int n = 3; n >= struck; n--) {
                x.strike(n);
            }
            for (int n = struck; n < 4; n++) {
                int before = x.account(0, 2);
                x.tell(0, before - amounts[n]);
                Checks.due("a struck one, " + n, x.traced(), -1);
                for (int m = 0; m < struck; m++) {
                    x.tell(0, before - amounts[n] - amounts[m]);
                    Checks.due("a struck one and another, " + n + ", " + m, x.traced(), -1);
                    for (int l = 0; l < m; l++) {
                        x.tell(0, before - amounts[n] - amounts[m] - amounts[l]);
                        Checks.due("a struck one and two others, " + n + ", " + m + ", " + l, x.traced(), -1);
                    }
                }
            }
            x.tell(0, 0);
            Checks.due("those that count", x.traced(), (1 << struck) - 1);
        }
        CashDeriver y = Checks.of(THREE + "journal 0 0 1 1 -1;");
        y.tell(1, 7);
        y.tell(0, 0);
        Checks.due("one that stays", y.traced(), -1);
        y.undo();
        y.undo();
        y.tell(0, 0);
        Checks.due("one that was told is not told any more", y.traced(), 1);
    }

    @Sentence(under = TERMS, words = "TRACED: the fewest JOURNALS that count, 3 at most, without which no RESIDUAL were anything but 0")
    static void ofTwelveAccountsTold() {
        CashDeriver x = Checks.of("account cash 0;".repeat(12) + "journal 0 0 5 11 -5;journal 1 11 5 10 -5;journal 2 0 5 10 -5;");
        for (int account = 0; account < 12; account++) {
            x.tell(account, account == 0 ? 5 : account == 10 ? -5 : 0);
        }
        Checks.due("one that explains all, not the two that do", x.traced(), 4);
        x.tell(11, 1);
        Checks.due("a residual of the last account stays", x.traced(), -1);
        x.tell(11, 5);
        Checks.due("a residual of the last but one stays", x.traced(), -1);
        x.tell(10, -10);
        Checks.due("the first", x.traced(), 1);
    }

    @Sentence(under = TERMS, words = "TRACED: the fewest JOURNALS that count, 3 at most, without which no RESIDUAL were anything but 0")
    static void noResidualMayStay() {
        CashDeriver x = Checks.of(THREE + "journal 0 0 5 1 -5;journal 1 0 5 2 -5;journal 2 1 3 2 -3;");
        x.tell(0, 5);
        Checks.due("of one told", x.traced(), 1);
        x.tell(2, -3);
        Checks.due("of two told", x.traced(), 2);
        x.tell(1, -2);
        Checks.due("one told as it is must stay so", x.traced(), 2);
        x.tell(1, -1);
        Checks.due("one that stays", x.traced(), -1);
        x.strike(1);
        x.tell(1, -2);
        Checks.due("a struck one is not traced, nor needed", x.traced(), 0);
        x.tell(0, 10);
        Checks.due("nor does it explain", x.traced(), -1);
    }

    @Sentence(under = TERMS, words = "(of as few the least bits).")
    static void ofAsFewTheLeastBits() {
        Checks.due("one of four", tracedOf(5, 5, 5, 5, 5), 1);
        Checks.due("two of four", tracedOf(10, 5, 5, 5, 5), 3);
        Checks.due("three of four", tracedOf(15, 5, 5, 5, 5), 7);
        // 6 is less than 9, though 9 has the lowest journal
        Checks.due("1 and 2, not 0 and 3", tracedOf(5, 1, 2, 3, 4), 6);
        // 28 is less than 35 and 41
        Checks.due("2, 3 and 4", tracedOf(28, 1, 2, 4, 8, 16, 25), 28);
        Checks.due("0, 3 and 4, not 1, 2 and 5", tracedOf(30, 2, 3, 4, 8, 20, 23), 25);
        Checks.due("the last one alone", tracedOf(7, 1, 1, 1, 1, 1, 7), 32);
    }

    @Sentence(under = TERMS, words = "(of as few the least bits).")
    static void bitsOfTheLastOfThirty() {
        int[] amounts = new int[30];
        for (int n = 0; n < 30; n++) {
            amounts[n] = n < 27 ? 1000 : 1 << n - 27;
        }
        Checks.due("29", tracedOf(4, amounts), 1 << 29);
        Checks.due("28 and 29", tracedOf(6, amounts), 3 << 28);
        Checks.due("27, 28 and 29", tracedOf(7, amounts), 7 << 27);
        Checks.due("0, 1 and 2", tracedOf(3000, amounts), 7);
        Checks.due("0, 1 and 29", tracedOf(2004, amounts), 1 << 29 | 3);
        Checks.due("four", tracedOf(1007, amounts), -1);
    }

    @Sentence(under = TERMS, words = "A new TEXT: nothing STRUCK, nothing TOLD, nothing can be undone.")
    static void aNewTextBeginsAnew() {
        String text = "account cash 5;account work 6;journal 3 0 1 1 -1;journal 4 0 2 1 -2;";
        CashDeriver x = Checks.of(text);
        x.strike(0);
        x.strike(1);
        x.tell(0, 99);
        x.tell(1, 0);
        x.turn(1, 4);
        x.post(0, 0, 1, 8);
        x.more(0, 0, 1, 8);
        Checks.due("the same text again", Checks.read(x, text), 4);
        for (int what = 2; what <= 4; what++) {
            Checks.due("now(" + what + ")", x.now(what), 0);
        }
        for (int n = 0; n < 2; n++) {
            Checks.due("struck " + n, x.journal(n, 4), 0);
            Checks.due("lines of " + n, x.journal(n, 1), 2);
            Checks.due("told of " + n, x.account(n, 3), 0);
            Checks.due("residual of " + n, x.account(n, 4), 0);
        }
        Checks.due("kind", x.account(1, 0), 1);
        Checks.due("balance", x.account(0, 2), 8);
        Checks.due("journals", x.now(1), 2);
        Checks.due("undo()", x.undo(), -1);
        Checks.due("traced()", x.traced(), 0);
    }

    @Sentence(under = TERMS, words = "A new TEXT: nothing STRUCK, nothing TOLD, nothing can be undone.")
    static void nothingStaysFromTextsLongAgo() {
        String accounts = "account cash 5;account work 6;account finance 7;account invest 8;";
        String[] journals = {"journal 3 0 1 1 2 2 -1 3 -2;journal 3 0 1 1 -1;", "journal 4 0 5 1 -5;",
            "journal 5 0 1 1 2 2 4 3 8 0 16 1 -31;"};
        int[][] rows = {{0, 1, 0, 1}, {0, 0}, {0, 0, 0, 0, 0, 0}};
        int[] pieces = {2, 1, 5};
        CashDeriver x = new CashDeriver();
        for (int n = 0; n < 7; n++) {
            String text = accounts + journals[n % 3];
            Checks.due("text " + n, Checks.read(x, text), n % 3 == 0 ? 6 : 5);
            for (int what = 2; what <= 4; what++) {
                Checks.due("now(" + what + ") of text " + n, x.now(what), 0);
            }
            int[] row = rows[n % 3];
            Checks.due("lines of text " + n, x.journal(0, 1), row.length);
            Checks.due("pieces of text " + n, x.journal(0, 3), pieces[n % 3]);
            for (int k = 0; k < row.length; k++) {
                Checks.due("group of line " + k + " of text " + n, x.journal(0, 30 + k), row[k]);
            }
            for (int account = 0; account < 4; account++) {
                Checks.due("told of account " + account + " of text " + n, x.account(account, 3), 0);
            }
            // of what comes later, in the place of a struck one of a text ahead, too
            while (x.now(1) < 4) {
                Checks.due("post() counts", x.journal(x.post(0, 0, 1, 9), 4), 0);
                Checks.due("post() is one group", x.journal(x.now(1) - 1, 31), 0);
            }
            x.more(3, 2, 0, 9);
            for (int journal = 0; journal < 4; journal++) {
                Checks.due("strike() of text " + n, x.strike(journal), 1);
                x.tell(journal, 99 + n);
            }
            x.turn(n % 4, 5);
        }
    }

    @Sentence(under = TERMS, words = "A new TEXT: nothing STRUCK, nothing TOLD, nothing can be undone.")
    static void theEmptyTextIsOneToo() {
        CashDeriver x = Unchanged.rich();
        x.end(0);
        Checks.due("text()", x.text(), 0);
        for (int what = 0; what <= 5; what++) {
            Checks.due("now(" + what + ")", x.now(what), 0);
        }
        Checks.due("undo()", x.undo(), -1);
        Checks.due("traced()", x.traced(), 0);
        Checks.due("change(0, 19)", x.change(0, 19), 0);
    }

    @Sentence(under = TERMS, words = "A refused call, one that throws changes nothing.")
    static void refusedCallsOfAllKindsTogether() {
        Unchanged.by("all refused calls", x -> {
            x.end(-1);
            x.end(641);
            x.now(6);
            Checks.dueNoSuchElement("account(4, 0)", () -> x.account(4, 0));
            Checks.dueNoSuchElement("journal(4, 0)", () -> x.journal(4, 0));
            x.piece(4, 0, 0);
            x.direct(4, 0, 19, 0);
            x.indirect(1, 0, 0);
            x.change(0, 20);
            x.makes(-1, 0, 19);
            x.deals(0, 5, 0, 19);
            x.balance(4, 0);
            x.post(0, 0, 0, 1);
            x.more(2, 0, 1, 1);
            x.strike(4);
            x.tell(0, 10000000);
            x.turn(0, 6);
        });
    }

    @Sentence(under = TERMS, words = "A refused call, one that throws changes nothing.")
    static void refusedCallsOnANewObject() {
        Unchanged.by("refused calls", CashDeriver::new, x -> {
            x.end(1);
            Checks.dueNoSuchElement("account(0, 0)", () -> x.account(0, 0));
            Checks.dueNoSuchElement("journal(0, 0)", () -> x.journal(0, 0));
            x.post(0, 0, 1, 1);
            x.more(0, 0, 1, 1);
            x.strike(0);
            x.tell(0, 0);
            x.turn(0, 0);
            x.undo();
        });
    }
}
