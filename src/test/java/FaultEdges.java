/** Terms: the FAULTS of a text, which one is told and at which place. */
final class FaultEdges {
    private static final String TERMS = "Terms";
    private static final String CASH = "account cash 0;";
    private static final String JOURNAL = "journal 0 0 1 0 -1;";

    private FaultEdges() {
    }

    @Sentence(under = TERMS, words = "FAULTS, the first along the text")
    static void theFirstFaultIsToldWhateverItsKind() {
        // each text has a fault of one kind ahead of one of another
        Checks.bad(CASH + "journal 0 0 1 0 1; $", 4, 32);
        Checks.bad(CASH + "journal 0 0 1 0 1 $;", 1, 33);
        Checks.bad(CASH + "journal 20 0 1 0 1;", 2, 23);
        Checks.bad(CASH + "journal 0 0 1 0 1;journal 20", 4, 32);
        Checks.bad(CASH + "journal 0 0 1 0 1 0 1 0 1 0 1 0 1 0 1;", 3, 15 + 34);
        Checks.bad(CASH + "journal 0 0 1 0 1 0 1 0 1 0 1 0 0 0 1;", 2, 15 + 32);
        Checks.bad(CASH.repeat(12) + "account cash 999999;", 3, 180);
        Checks.bad("account cash 999999;" + CASH.repeat(12), 1, 13);
        Checks.bad(CASH + "journal 20 9 0 0 0;", 2, 23);
        Checks.bad(CASH + "journal 19 9 0 0 0;", 2, 26);
        Checks.bad(CASH + "journal 19 0 0 0 0;", 2, 28);
    }

    @Sentence(under = TERMS, words = "(of one TOKEN the one that stands first in this list)")
    static void ofOneTokenTheLeastKindIsTold() {
        String six = CASH + "journal 0 0 1 0 1 0 1 0 1 0 1 0 1";
        // a seventh line whose account was not told: 2 stands ahead of 3
        Checks.bad(six + " 1 1;", 2, six.length() + 1);
        Checks.bad(six + " 0 1;", 3, six.length() + 1);
        // a seventh line that begins with no account: 1 stands ahead of 3
        Checks.bad(six + " - 1;", 1, six.length() + 1);
        Checks.bad(six + " 000000 1;", 1, six.length() + 1);
        // a ; that can't come behind one line, which is not 0: 1 stands ahead of 4
        Checks.bad(CASH + "journal 0 0 1;", 1, 28);
        // a thirteenth account's word that can't come behind a journal: 1 stands ahead of 3
        Checks.bad(CASH.repeat(12) + JOURNAL + CASH, 1, 180 + 19);
        // a number that can't come and is too great: 1 stands ahead of 2
        Checks.bad(CASH + "99999", 1, 15);
    }

    @Sentence(under = TERMS, words = "1 no TOKEN, or one that can't come (at it")
    static void whatIsNoTokenIsToldWhereItBegins() {
        Checks.bad("$", 1, 0);
        Checks.bad(" \n$", 1, 2);
        Checks.bad("account $", 1, 8);
        Checks.bad("account cash $", 1, 13);
        Checks.bad("account cash -$", 1, 14);
        Checks.bad("account cash 0$", 1, 14);
        Checks.bad(CASH + "$", 1, 15);
        Checks.bad(CASH + "journal $", 1, 23);
        Checks.bad(CASH + "journal 0 $", 1, 25);
        Checks.bad(CASH + "journal 0 0 $", 1, 27);
        Checks.bad(CASH + "journal 0 0 1 $", 1, 29);
        Checks.bad(CASH + "journal 0 0 1 0 -1 $", 1, 34);
        Checks.bad(CASH + JOURNAL + "$", 1, 34);
    }

    @Sentence(under = TERMS, words = "1 no TOKEN, or one that can't come (at it")
    static void aTokenThatCantComeIsToldWhereItBegins() {
        String[] tokens = {"account", "journal", "cash", "word", "7", ";", "-"};
        checkEach("", tokens, "account journal");
        checkEach("account ", tokens, "cash");
        checkEach("account cash ", tokens, "7 -");
        checkEach("account cash -", tokens, "7");
        checkEach("account cash 7 ", tokens, ";");
        checkEach(CASH, tokens, "account journal");
        checkEach(CASH.repeat(8) + "journal ", tokens, "7");
        checkEach(CASH.repeat(8) + "journal 7 ", tokens, "7");
        checkEach(CASH.repeat(8) + "journal 7 0 ", tokens, "7 -");
        checkEach(CASH.repeat(8) + "journal 7 0 -", tokens, "7");
        checkEach(CASH.repeat(8) + "journal 7 0 1 ", tokens, "7");
        checkEach(CASH.repeat(8) + "journal 7 0 1 1 -1 ", tokens, "7 ;");
        checkEach(CASH + JOURNAL, tokens, "journal");
    }

    /** Of tokens behind a head those that can't come are told at once, the others leave a text that may go on or is one. */
    private static void checkEach(String head, String[] tokens, String fit) {
        for (String token : tokens) {
            String text = head + token;
            boolean fits = (" " + fit + " ").contains(" " + token + " ");
            if (!fits) {
                Checks.bad(text, 1, head.length());
            } else if (token.equals(";")) {
                Checks.due("text() of " + text, Checks.read(new CashDeriver(), text) > 0, true);
            } else {
                Checks.bad(text, 1, text.length());
            }
        }
    }

    @Sentence(under = TERMS, words = "the end: how many bytes there are")
    static void theEndIsToldAsTheNumberOfBytes() {
        Checks.bad("account", 1, 7);
        Checks.bad("account \n ", 1, 10);
        Checks.bad("account cash", 1, 12);
        Checks.bad("account cash 0", 1, 14);
        Checks.bad("account cash 0  ", 1, 16);
        Checks.bad(Checks.padded("account", 599, ""), 1, 599);
        Checks.bad(Checks.padded("account", 600, ""), 1, 600);
        // the last byte that a text may have begins a token, and ends one
        Checks.bad(Checks.padded("account cash", 600, "7"), 1, 600);
        Checks.bad(Checks.padded("", 600, "account"), 1, 600);
    }

    @Sentence(under = TERMS, words = "600, if there are more and no FAULT is ahead")
    static void sixHundredIsToldIfThereAreMore() {
        for (int size = 601; size <= 640; size++) {
            Checks.bad(Checks.padded("", size, ""), 1, 600);
            Checks.bad(Checks.padded(CASH, size, ""), 1, 600);
            Checks.bad(Checks.padded(CASH, size, "$"), 1, 600);
            Checks.bad(Checks.padded("account", size, ""), 1, 600);
        }
        Checks.bad(Checks.padded(CASH, 600, "$"), 1, 599);
        Checks.bad(Checks.padded(CASH, 601, "$"), 1, 600);
        Checks.bad(Checks.padded(CASH, 600, "$") + " ".repeat(40), 1, 599);
    }

    @Sentence(under = TERMS, words = "600, if there are more and no FAULT is ahead")
    static void aFaultAheadOf600IsTold() {
        Checks.bad(Checks.padded("$", 640, ""), 1, 0);
        Checks.bad(Checks.padded(CASH + "journal 20", 640, ""), 2, 23);
        Checks.bad(Checks.padded(CASH.repeat(13), 640, ""), 3, 180);
        Checks.bad(Checks.padded(CASH + "journal 0 0 1 0 1;", 640, ""), 4, 32);
        // the last place ahead of it, and the place itself
        Checks.bad(Checks.padded(CASH + "journal 0 0 1 0 1", 600, ";") + "  ", 4, 599);
        Checks.bad(Checks.padded(CASH + "journal 0 0 1 0 1", 601, ";"), 1, 600);
        Checks.bad(Checks.padded(CASH + "journal", 600, "-") + "  ", 1, 599);
        Checks.bad(Checks.padded(CASH + "journal", 601, "-"), 1, 600);
    }

    @Sentence(under = TERMS, words = "TOKENS that begin ahead of it are read whole)")
    static void tokensThatBeginAt599AreReadWhole() {
        // numbers: the second digit stands at 600
        Checks.bad(Checks.padded(CASH + "journal", 601, "19"), 1, 600);
        Checks.bad(Checks.padded(CASH + "journal", 601, "20"), 2, 599);
        Checks.bad(Checks.padded(CASH + "journal 0 0", 601, "00"), 2, 599);
        Checks.bad(Checks.padded(CASH + "journal 0 0", 601, "01"), 1, 600);
        Checks.bad(Checks.padded("account cash", 604, "12345"), 1, 600);
        Checks.bad(Checks.padded("account cash", 605, "123456"), 1, 599);
        Checks.bad(Checks.padded("account cash", 605, "12345a"), 1, 599);
        Checks.bad(Checks.padded("account cash", 640, "1".repeat(41)), 1, 599);
        // words
        Checks.bad(Checks.padded(CASH, 606, "account"), 1, 600);
        Checks.bad(Checks.padded(CASH, 607, "accounts"), 1, 599);
        Checks.bad(Checks.padded(CASH, 605, "accoun"), 1, 599);
        Checks.bad(Checks.padded("account", 603, "cash"), 1, 600);
        Checks.bad(Checks.padded("account", 603, "cast"), 1, 599);
        Checks.bad(Checks.padded(CASH.repeat(12), 606, "account"), 3, 599);
        Checks.bad(Checks.padded(CASH, 640, "a".repeat(41)), 1, 599);
        Checks.bad(Checks.padded(CASH, 606, "account") + "$", 1, 600);
    }

    @Sentence(under = TERMS, words = "TOKENS that begin ahead of it are read whole)")
    static void tokensThatBeginAt600AreNotRead() {
        Checks.bad(Checks.padded(CASH + "journal", 602, "20"), 1, 600);
        Checks.bad(Checks.padded("account cash", 606, "123456"), 1, 600);
        Checks.bad(Checks.padded(CASH, 608, "accounts"), 1, 600);
        Checks.bad(Checks.padded(CASH.repeat(12), 607, "account"), 1, 600);
        Checks.bad(Checks.padded("account", 604, "cast"), 1, 600);
    }

    @Sentence(under = TERMS, words = "2 a NUMBER that is not as told (at it)")
    static void aNumberThatIsNotAsToldIsToldWhereItBegins() {
        Checks.bad(CASH + "journal 20", 2, 23);
        Checks.bad(CASH + "journal 00020", 2, 23);
        Checks.bad(CASH + "journal 0 1", 2, 25);
        Checks.bad(CASH + "journal 0 00001", 2, 25);
        Checks.bad(CASH + "journal 0 0 0", 2, 27);
        // of an amount below 0 the number itself, not the sign
        Checks.bad(CASH + "journal 0 0 -0", 2, 28);
        Checks.bad(CASH + "journal 0 0 -\n 0", 2, 30);
        Checks.bad(CASH + "journal 0 0 1 1", 2, 29);
        Checks.bad(CASH + "journal 0 0 1 0 0", 2, 31);
        Checks.bad(CASH + "journal 0 0 1 0 -1 1", 2, 34);
        Checks.bad(CASH + "journal 0 0 1 0 -1 0 -0", 2, 37);
    }

    @Sentence(under = TERMS, words = "3 one more ACCOUNT, JOURNAL than told (at its WORD)")
    static void aThirteenthIsToldAtItsWord() {
        String twelve = CASH.repeat(12);
        Checks.bad(twelve + "account", 3, 180);
        Checks.bad(twelve + "\n account work 1;", 3, 182);
        Checks.bad(twelve + "account $", 3, 180);
        Checks.bad(twelve + "accounts", 1, 180);
        String journals = CASH + JOURNAL.repeat(12);
        Checks.bad(journals + "journal", 3, 15 + 228);
        Checks.bad(journals + " \njournal 0 0 1 0 -1;", 3, 15 + 230);
        Checks.bad(journals + "journal 20", 3, 15 + 228);
        Checks.bad(journals + "journals", 1, 15 + 228);
    }

    @Sentence(under = TERMS, words = "a seventh LINE (at its ACCOUNT)")
    static void aSeventhLineIsToldAtItsAccount() {
        String six = CASH + "journal 0 0 1 0 1 0 1 0 -1 0 -1 0 -1";
        Checks.good(six + ";", 2);
        Checks.bad(six + " 0", 3, six.length() + 1);
        Checks.bad(six + "\n\n00000 0;", 3, six.length() + 2);
        Checks.bad(six + " 0 $", 3, six.length() + 1);
        Checks.bad(six + " 0;", 3, six.length() + 1);
        // the first six are not 0, which is seen only at a ; behind them
        Checks.bad(CASH + "journal 0 0 1 0 1 0 1 0 1 0 1 0 1 0 -6;", 3, 15 + 34);
    }

    @Sentence(under = TERMS, words = "4 LINES that are not 0 together (at the ; behind them).")
    static void linesThatAreNotZeroAreToldAtTheSign() {
        Checks.bad(CASH + "journal 0 0 1 0 -2;", 4, 33);
        Checks.bad(CASH + "journal 0 0 2 0 -1;", 4, 33);
        Checks.bad(CASH + "journal 0 0 2 0 -1 \n ;", 4, 36);
        Checks.bad(CASH + "journal 0 0 99999 0 99999 0 99999 0 99999 0 99999 0 99999;", 4, 72);
        Checks.bad(CASH + JOURNAL + "journal 0 0 -3 0 1 0 1;", 4, 56);
        // lines that are 0 ahead of the last one
        Checks.bad(CASH + "journal 0 0 1 0 -1 0 1;", 4, 37);
    }
}
