/** Terms: JOURNALS that count, GROUPS, PIECES, and what a PIECE is of. */
final class PartingEdges {
    private static final String TERMS = "Terms";
    private static final String KINDS =
        "account cash 0;account work 0;account income 0;account invest 0;account finance 0;account currency 0;";

    private PartingEdges() {
    }

    /** A journal of these amounts, of accounts 0, 1, 2.. in order. */
    private static CashDeriver journalOf(String amounts) {
        StringBuilder text = new StringBuilder(KINDS).append("journal 0");
        String[] each = amounts.split(" ");
        for (int k = 0; k < each.length; k++) {
            text.append(' ').append(k).append(' ').append(each[k]);
        }
        return Checks.of(text.append(';').toString());
    }

    private static void parted(String amounts, String row) {
        CashDeriver x = journalOf(amounts);
        int groups = 0;
        for (int k = 0; k < row.length(); k++) {
            groups = Math.max(groups, row.charAt(k) - '0' + 1);
            Checks.due("group of line " + k + " of " + amounts, x.journal(0, 30 + k), row.charAt(k) - '0');
        }
        Checks.due("groups of " + amounts, x.journal(0, 2), groups);
    }

    /** Its pieces, each as the account credited, the one debited and how much. */
    private static void cut(String amounts, int[][] due) {
        CashDeriver x = journalOf(amounts);
        Checks.due("pieces of " + amounts, x.journal(0, 3), due.length);
        for (int k = 0; k < due.length; k++) {
            for (int what = 0; what < 3; what++) {
                Checks.due("piece " + k + ", " + what + " of " + amounts, x.piece(0, k, what), due[k][what]);
            }
        }
        Checks.due("a piece behind the last of " + amounts, x.piece(0, due.length, 0), -1);
    }

    @Sentence(under = TERMS, words = "A JOURNAL counts, if it is not STRUCK, in its PERIOD.")
    static void itCountsInItsPeriodAlone() {
        for (int period = 0; period < 20; period++) {
            CashDeriver x = Checks.of("account cash 0;account work 0;account finance 0;");
            x.post(period, 0, 1, 5);
            x.more(0, 2, 1, 3);
            checkCounts(x, period, period, true);
            checkCounts(x, 0, 19, true);
            checkCounts(x, 0, period, true);
            checkCounts(x, period, 19, true);
            if (period > 0) {
                checkCounts(x, 0, period - 1, false);
                checkCounts(x, period - 1, period, true);
                Checks.due("balance ahead of " + period, x.balance(0, period - 1), 0);
            }
            if (period < 19) {
                checkCounts(x, period + 1, 19, false);
                checkCounts(x, period, period + 1, true);
                Checks.due("balance later than " + period, x.balance(0, period + 1), 5);
            }
            Checks.due("balance behind " + period, x.balance(0, period), 5);
        }
    }

    @Sentence(under = TERMS, words = "A JOURNAL counts, if it is not STRUCK, in its PERIOD.")
    static void aStruckOneDoesNotCount() {
        CashDeriver x = Checks.of("account cash 0;account work 0;account finance 0;");
        x.post(4, 0, 1, 5);
        x.more(0, 2, 1, 3);
        x.strike(0);
        checkCounts(x, 0, 19, false);
        checkCounts(x, 4, 4, false);
        Checks.due("balance behind all", x.account(0, 2), 0);
        x.strike(0);
        checkCounts(x, 0, 19, true);
        checkCounts(x, 4, 4, true);
        Checks.due("balance behind all, counted again", x.account(0, 2), 5);
    }

    private static void checkCounts(CashDeriver x, int from, int to, boolean counts) {
        String periods = " of " + from + " to " + to;
        Checks.due("direct()" + periods, x.direct(0, from, to, 0), counts ? 5 : 0);
        Checks.due("makes()" + periods, x.makes(0, from, to), counts ? 1 : 0);
        Checks.due("change()" + periods, x.change(from, to), counts ? 5 : 0);
        Checks.due("indirect(), CHANGE" + periods, x.indirect(from, to, 2), counts ? 8 : 0);
        Checks.due("indirect(), APART" + periods, x.indirect(from, to, 3), counts ? -3 : 0);
        Checks.due("deals()" + periods, x.deals(1, 4, from, to), counts ? 3 : 0);
    }

    @Sentence(under = TERMS, words = "GROUPS of a JOURNAL: its LINES parted into as many groups as can be, each of which is 0 together")
    static void groupsAreAsManyAsCanBe() {
        // one group alone: two lines, and six that have no part of 0
        parted("5 -5", "00");
        parted("3 -1 -2", "000");
        parted("1 2 4 8 16 -31", "000000");
        parted("-1 -2 -4 -8 -16 31", "000000");
        // two
        parted("1 -1 2 -2", "0011");
        parted("1 2 3 -6 7 -7", "000011");
        parted("4 4 -1 -3 -2 -2", "010011");
        // three, the most that six lines have
        parted("1 -1 2 -2 3 -3", "001122");
        parted("3 2 1 -1 -2 -3", "012210");
        parted("1 2 -3 3 -1 -2", "012201");
        parted("99999 -1 -99998 99998 1 -99999", "012210");
    }

    @Sentence(under = TERMS, words = "of such ways the one of the least row: of each LINE in order the number of its GROUP")
    static void ofAsManyGroupsTheLeastRow() {
        parted("1 1 -1 -1", "0101");
        parted("1 -1 1 -1", "0011");
        parted("1 -1 -1 1", "0011");
        parted("1 1 1 -1 -1 -1", "012012");
        parted("1 -1 1 -1 1 -1", "001122");
        parted("2 2 -1 -1 -2", "01001");
        parted("2 -2 2 -1 -1", "00111");
        parted("2 -1 -1 2 -2", "00011");
        parted("3 3 -1 -2 -3", "01001");
        parted("2 1 1 -2 -1 -1", "012012");
    }

    @Sentence(under = TERMS, words = "GROUPS numbered from 0 as their first LINES come.")
    static void groupsAreNumberedAsTheirFirstLinesCome() {
        parted("1 2 3 -3 -2 -1", "012210");
        parted("-1 2 -3 3 -2 1", "012210");
        parted("1 2 -2 -1", "0110");
        parted("7 1 2 -3 -7", "01110");
        parted("7 -7 1 2 -3", "00111");
    }

    @Sentence(under = TERMS, words = "PIECES of a GROUP: its debited LINES and its credited ones, each in order: "
        + "from the first credited one to the first debited one goes the lesser of what is left of both")
    static void theLesserOfBothGoes() {
        cut("5 -5", new int[][] {{1, 0, 5}});
        cut("-5 5", new int[][] {{0, 1, 5}});
        // the debited one is less, the credited one is less, by 1
        cut("2 1 -3", new int[][] {{2, 0, 2}, {2, 1, 1}});
        cut("3 -2 -1", new int[][] {{1, 0, 2}, {2, 0, 1}});
        cut("4 3 -5 -2", new int[][] {{2, 0, 4}, {2, 1, 1}, {3, 1, 2}});
        cut("-5 -2 4 3", new int[][] {{0, 2, 4}, {0, 3, 1}, {1, 3, 2}});
        cut("99999 -99998 -1", new int[][] {{1, 0, 99998}, {2, 0, 1}});
    }

    @Sentence(under = TERMS, words = "what has nothing left is gone by")
    static void whatHasNothingLeftIsGoneBy() {
        // lines of one group have nothing left at once only at its end, else there were two
        cut("1 5 -2 -4", new int[][] {{2, 0, 1}, {2, 1, 1}, {3, 1, 4}});
        cut("6 -1 -2 -3", new int[][] {{1, 0, 1}, {2, 0, 2}, {3, 0, 3}});
        cut("1 2 3 -6", new int[][] {{3, 0, 1}, {3, 1, 2}, {3, 2, 3}});
    }

    @Sentence(under = TERMS, words = "and so on, till nothing is left.")
    static void piecesGoOnTillNothingIsLeft() {
        // five pieces are the most: one less than the lines of one group
        cut("1 2 4 8 16 -31", new int[][] {{5, 0, 1}, {5, 1, 2}, {5, 2, 4}, {5, 3, 8}, {5, 4, 16}});
        cut("31 -1 -2 -4 -8 -16", new int[][] {{1, 0, 1}, {2, 0, 2}, {3, 0, 4}, {4, 0, 8}, {5, 0, 16}});
        cut("10 20 40 -15 -16 -39", new int[][] {{3, 0, 10}, {3, 1, 5}, {4, 1, 15}, {4, 2, 1}, {5, 2, 39}});
    }

    @Sentence(under = TERMS, words = "PIECES of a JOURNAL: GROUP by GROUP.")
    static void piecesComeGroupByGroup() {
        cut("3 2 1 -1 -2 -3", new int[][] {{5, 0, 3}, {4, 1, 2}, {3, 2, 1}});
        cut("2 2 -1 -1 -2", new int[][] {{2, 0, 1}, {3, 0, 1}, {4, 1, 2}});
        cut("7 3 -3 -2 -5", new int[][] {{3, 0, 2}, {4, 0, 5}, {2, 1, 3}});
        cut("1 -1 1 -1 1 -1", new int[][] {{1, 0, 1}, {3, 2, 1}, {5, 4, 1}});
    }

    @Sentence(under = TERMS, words = "A PIECE is of CASH, if just one of its two ACCOUNTS is 'cash' (as KINDS are now)")
    static void justOneOfTwoIsCash() {
        CashDeriver x = Checks.of("account cash 0;account work 0;journal 0 0 1 1 -1;");
        Checks.due("one is cash", x.piece(0, 0, 3), 0);
        x.turn(0, 1);
        Checks.due("none is", x.piece(0, 0, 3), 4);
        x.turn(1, 0);
        Checks.due("the other one is", x.piece(0, 0, 3), 0);
        x.turn(0, 0);
        Checks.due("both are", x.piece(0, 0, 3), 5);
        x.undo();
        Checks.due("one is again, as it is undone", x.piece(0, 0, 3), 0);
    }

    @Sentence(under = TERMS, words = "its CLASS is by KIND of the other one: "
        + "'work', 'income' 0 (operating), 'invest' 1, 'finance' 2, 'currency' 3.")
    static void theClassIsByTheOtherKind() {
        int[] classes = {5, 0, 0, 1, 2, 3};
        for (int kind = 1; kind < 6; kind++) {
            CashDeriver x = Checks.of(KINDS + "journal 0 0 1 " + kind + " -1;journal 0 " + kind + " 1 0 -1;");
            Checks.due("cash debited, kind " + kind, x.piece(0, 0, 3), classes[kind]);
            Checks.due("cash credited, kind " + kind, x.piece(1, 0, 3), classes[kind]);
            for (int sort = 0; sort < 4; sort++) {
                Checks.due("IN of class " + sort, x.direct(sort, 0, 0, 0), sort == classes[kind] ? 1 : 0);
                Checks.due("makes of class " + sort, x.makes(sort, 0, 0), sort == classes[kind] ? 3 : 0);
            }
        }
    }

    @Sentence(under = TERMS, words = "It came IN, if cash is debited, went OUT, if credited.")
    static void inIfCashIsDebited() {
        CashDeriver x = Checks.of(KINDS + "journal 0 0 7 4 -7;journal 1 4 5 0 -5;");
        Checks.due("IN", x.direct(2, 0, 0, 0), 7);
        Checks.due("no OUT", x.direct(2, 0, 0, 1), 0);
        Checks.due("no IN", x.direct(2, 1, 1, 0), 0);
        Checks.due("OUT", x.direct(2, 1, 1, 1), 5);
    }

    @Sentence(under = TERMS, words = "A PIECE between others than 'cash' is a DEAL, of two KINDS")
    static void betweenOthersItIsADeal() {
        for (int kind = 1; kind < 6; kind++) {
            for (int other = 1; other < 6; other++) {
                CashDeriver x = Checks.of("account cash 0;account cash 0;journal 0 0 9 1 -9;");
                x.turn(0, kind);
                x.turn(1, other);
                Checks.due("sort of " + kind + ", " + other, x.piece(0, 0, 3), 4);
                Checks.due("deals of " + kind + ", " + other, x.deals(Math.min(kind, other), Math.max(kind, other), 0, 0), 9);
                for (int sort = 0; sort < 4; sort++) {
                    Checks.due("no cash of class " + sort, x.makes(sort, 0, 0), 0);
                }
            }
        }
    }

    @Sentence(under = TERMS, words = "one between two of 'cash' is nothing.")
    static void betweenTwoOfCashItIsNothing() {
        CashDeriver x = Checks.of("account cash 0;account cash 0;journal 0 0 9 1 -9;journal 0 1 4 1 -4;");
        for (int journal = 0; journal < 2; journal++) {
            Checks.due("sort", x.piece(journal, 0, 3), 5);
            Checks.due("it is a piece all the same", x.journal(journal, 3), 1);
        }
        for (int sort = 0; sort < 4; sort++) {
            Checks.due("IN of class " + sort, x.direct(sort, 0, 19, 0), 0);
            Checks.due("OUT of class " + sort, x.direct(sort, 0, 19, 1), 0);
            Checks.due("makes of class " + sort, x.makes(sort, 0, 19), 0);
        }
        for (int kind = 1; kind < 6; kind++) {
            for (int other = kind; other < 6; other++) {
                Checks.due("deals(" + kind + ", " + other + ")", x.deals(kind, other, 0, 19), 0);
            }
        }
        Checks.due("change of all cash", x.change(0, 19), 0);
    }
}
