/** Terms, its first half: what TOKENS are and what a TEXT may hold. */
final class TokenEdges {
    private static final String TERMS = "Terms";
    private static final String CASH = "account cash 0;";
    private static final String TWO = "account cash 1;account work 2;";

    private TokenEdges() {
    }

    private static boolean isBlank(int sign) {
        return sign == 32 || sign == 10;
    }

    private static boolean isLetter(int sign) {
        return sign >= 97 && sign <= 122;
    }

    private static boolean isDigit(int sign) {
        return sign >= 48 && sign <= 57;
    }

    @Sentence(under = TERMS, words = "TOKENS of a text, with blanks (32, 10) between them or not")
    static void everyByteButTwoIsNoBlank() {
        for (int sign = 0; sign < 256; sign++) {
            if (isBlank(sign)) {
                Checks.good("account" + (char) sign + "cash 0;", 1);
                Checks.good((char) sign + CASH, 1);
                Checks.good(CASH + (char) sign, 1);
                Checks.good("" + (char) sign, 0);
            } else {
                Checks.bad("account" + (char) sign + "cash 0;", 1, isLetter(sign) || isDigit(sign) ? 0 : 7);
                Checks.bad((char) sign + CASH, 1, 0);
                Checks.bad(CASH + (char) sign, 1, 15);
                Checks.bad("" + (char) sign, 1, 0);
            }
        }
    }

    @Sentence(under = TERMS, words = "TOKENS of a text, with blanks (32, 10) between them or not")
    static void blanksMayBeManyOrNone() {
        Checks.good("account cash-5;account work-6;journal 0 0 5 1-5;journal 1 0 5 1-5;", 4);
        Checks.good("\n\n account  \n cash \n - \n 5 \n ; \n ", 1);
        Checks.good(TWO + "journal\n0\n0\n5\n1\n-\n5\n;\n", 3);
        Checks.bad("acc ount cash 0;", 1, 0);
        Checks.bad("account cash 1 2;", 1, 15);
    }

    @Sentence(under = TERMS, words = "WORDS: small letters")
    static void wordsAreSmallLettersAlone() {
        // a small letter or digit makes another word of it, all else stands behind it
        for (int sign = 0; sign < 256; sign++) {
            if (sign != '-' && !isBlank(sign)) {
                Checks.bad("account cash" + (char) sign + " 0;", 1, isLetter(sign) || isDigit(sign) ? 8 : 12);
            }
        }
    }

    @Sentence(under = TERMS, words = "WORDS: small letters")
    static void capitalsAreNoWords() {
        Checks.bad("Account cash 0;", 1, 0);
        Checks.bad("ACCOUNT cash 0;", 1, 0);
        Checks.bad("accounT cash 0;", 1, 0);
        Checks.bad("account Cash 0;", 1, 8);
        Checks.bad("account cash 0;Journal 0 0 1 0 -1;", 1, 15);
    }

    @Sentence(under = TERMS, words = "NUMBERS: 1 to 5 digits")
    static void oneDigitAndFiveAreNumbers() {
        for (int digit = 0; digit < 10; digit++) {
            CashDeriver x = Checks.of("account cash " + digit + ";account work " + ("" + digit).repeat(5) + ";");
            Checks.due("one digit", x.account(0, 1), digit);
            Checks.due("five digits", x.account(1, 1), digit * 11111);
        }
        CashDeriver y = Checks.of("account cash 12345;account work -00009;");
        Checks.due("12345", y.account(0, 1), 12345);
        Checks.due("-00009", y.account(1, 1), -9);
    }

    @Sentence(under = TERMS, words = "NUMBERS: 1 to 5 digits")
    static void sixDigitsAreNoToken() {
        Checks.bad("account cash 000000;", 1, 13);
        Checks.bad("account cash 000001;", 1, 13);
        Checks.bad("account cash 100000;", 1, 13);
        Checks.bad("account cash -999999;", 1, 14);
        Checks.bad("account cash 99999999999999999999;", 1, 13);
        Checks.bad(CASH + "journal 000000 0 1 0 -1;", 1, 23);
        Checks.bad(CASH + "journal 0 000000 1 0 -1;", 1, 25);
        Checks.bad(CASH + "journal 0 0 000001 0 -1;", 1, 27);
        Checks.bad(CASH + "journal 0 0 4294967297 0 -1;", 1, 27);
    }

    @Sentence(under = TERMS, words = "NUMBERS: 1 to 5 digits")
    static void noDigitIsNoNumber() {
        Checks.bad("account cash ;", 1, 13);
        Checks.bad("account cash -;", 1, 14);
        Checks.bad("account cash a;", 1, 13);
        Checks.bad("account cash /;", 1, 13);
        Checks.bad("account cash :;", 1, 13);
    }

    @Sentence(under = TERMS, words = "the signs ; -")
    static void noOtherSignsAreTokens() {
        for (int sign = 0; sign < 256; sign++) {
            String ended = "account cash 5" + (char) sign;
            if (sign == ';') {
                Checks.good(ended, 1);
            } else {
                Checks.bad(ended, 1, isBlank(sign) || isDigit(sign) ? 15 : isLetter(sign) ? 13 : 14);
            }
            String below = "account cash " + (char) sign + "5;";
            if (sign == '-' || isBlank(sign) || isDigit(sign)) {
                CashDeriver x = Checks.of(below);
                Checks.due("first of " + below, x.account(0, 1), sign == '-' ? -5 : isBlank(sign) ? 5 : 10 * (sign - '0') + 5);
            } else {
                Checks.bad(below, 1, 13);
            }
        }
    }

    @Sentence(under = TERMS, words = "(A WORD, NUMBER goes on as long as small letters and digits do")
    static void lettersAndDigitsAreOneRun() {
        Checks.bad("account0 cash 0;", 1, 0);
        Checks.bad("accountcash 0;", 1, 0);
        Checks.bad("account cash0;", 1, 8);
        Checks.bad("account cash 0account work 0;", 1, 13);
        Checks.bad(CASH + "journal0 0 1 0 -1;", 1, 15);
        Checks.bad(CASH + "journal 0journal", 1, 23);
        Checks.bad("account cash 0a;", 1, 13);
        Checks.bad("account cash 0z;", 1, 13);
        Checks.bad("account cash a0;", 1, 13);
        Checks.bad("account cash 12345a;", 1, 13);
    }

    @Sentence(under = TERMS, words = "(A WORD, NUMBER goes on as long as small letters and digits do")
    static void signsAndBlanksEndARun() {
        Checks.good("account cash-0;account work 0;", 2);
        Checks.good("account cash\n0\n;", 1);
        Checks.bad("account;cash", 1, 7);
        Checks.bad("account cash 5-5;", 1, 14);
    }

    @Sentence(under = TERMS, words = "what is not as told is no TOKEN.)")
    static void whatIsNotAsToldIsRefusedWhereItBegins() {
        Checks.bad("12345a", 1, 0);
        Checks.bad("  123456", 1, 2);
        Checks.bad("account 1cash 0;", 1, 8);
        Checks.bad("account cash \u00b0;", 1, 13);
        // bytes of 128 more than a token's, a blank's
        Checks.bad("account cash 0\u00bb", 1, 14);
        Checks.bad("account cash \u00ad0;", 1, 13);
        Checks.bad("account\u00a0cash 0;", 1, 7);
        Checks.bad("account\u008acash 0;", 1, 7);
        Checks.bad("\u00e1ccount cash 0;", 1, 0);
    }

    @Sentence(under = TERMS, words = "A TEXT has at most 600 bytes")
    static void sixHundredBytesAreAText() {
        Checks.good(Checks.padded(CASH, 600, ""), 1);
        Checks.good(Checks.padded(CASH, 600, CASH), 2);
        Checks.good(Checks.padded("", 600, ""), 0);
        Checks.good(Checks.padded(CASH, 599, CASH), 2);
        Checks.good("", 0);
    }

    @Sentence(under = TERMS, words = "A TEXT has at most 600 bytes")
    static void oneByteMoreIsNone() {
        Checks.bad(Checks.padded(CASH, 601, ""), 1, 600);
        Checks.bad(Checks.padded(CASH, 601, CASH), 1, 600);
        Checks.bad(Checks.padded("", 601, ""), 1, 600);
        Checks.bad(Checks.padded(CASH, 640, ""), 1, 600);
    }

    @Sentence(under = TERMS, words = "{ 'account' KIND AMOUNT ; }")
    static void accountsMayBeNone() {
        Checks.good("", 0);
        Checks.good(" ", 0);
        Checks.good(CASH, 1);
        Checks.good(TWO, 2);
        // without an account there is no journal either, as its lines have none to tell
        Checks.bad("journal 0 0 1 0 -1;", 2, 10);
    }

    @Sentence(under = TERMS, words = "{ 'account' KIND AMOUNT ; }")
    static void eachPartOfAnAccountIsNeeded() {
        Checks.bad("cash 0;", 1, 0);
        Checks.bad("account 0;", 1, 8);
        Checks.bad("account cash;", 1, 12);
        Checks.bad("account cash 0", 1, 14);
        Checks.bad("account cash 0 account cash 0;", 1, 15);
        Checks.bad(CASH + ";", 1, 15);
        Checks.bad("account account cash 0;", 1, 8);
        Checks.bad("account cash cash 0;", 1, 13);
    }

    @Sentence(under = TERMS, words = "{ 'journal' PERIOD ACCOUNT AMOUNT ACCOUNT AMOUNT { ACCOUNT AMOUNT } ; }.")
    static void journalsMayBeNoneAndStandBehindAllAccounts() {
        Checks.good(CASH, 1);
        Checks.good(CASH + "journal 0 0 1 0 -1;", 2);
        Checks.good(CASH + "journal 0 0 1 0 -1;journal 1 0 1 0 -1;", 3);
        Checks.bad(CASH + "journal 0 0 1 0 -1;" + CASH, 1, 34);
    }

    @Sentence(under = TERMS, words = "{ 'journal' PERIOD ACCOUNT AMOUNT ACCOUNT AMOUNT { ACCOUNT AMOUNT } ; }.")
    static void aJournalHasTwoLinesAtLeast() {
        Checks.bad(CASH + "journal 0;", 1, 24);
        Checks.bad(CASH + "journal 0 0;", 1, 26);
        Checks.bad(CASH + "journal 0 0 1;", 1, 28);
        Checks.bad(CASH + "journal 0 0 1 0;", 1, 30);
        Checks.good(CASH + "journal 0 0 1 0 -1;", 2);
        Checks.bad(CASH + "journal 0 0 1 0 -1 0;", 1, 35);
        Checks.good(CASH + "journal 0 0 2 0 -1 0 -1;", 2);
    }

    @Sentence(under = TERMS, words = "{ 'journal' PERIOD ACCOUNT AMOUNT ACCOUNT AMOUNT { ACCOUNT AMOUNT } ; }.")
    static void aTextThatEndsInAJournalEndsTooEarly() {
        String whole = CASH + "journal 7 0 1 0 - 1 ;";
        for (int size = CASH.length() + 7; size < whole.length(); size++) {
            Checks.bad(whole.substring(0, size), 1, size);
        }
        Checks.good(whole, 2);
    }

    @Sentence(under = TERMS, words = "KIND 'cash', 'work', 'income', 'invest', 'finance', 'currency' (0 to 5)")
    static void kindsAreTheSixAndNoOther() {
        String[] kinds = {"cash", "work", "income", "invest", "finance", "currency"};
        for (int kind = 0; kind < 6; kind++) {
            String name = kinds[kind];
            Checks.due("kind of " + name, Checks.of("account " + name + " 0;").account(0, 0), kind);
            Checks.bad("account " + name.substring(1) + " 0;", 1, 8);
            Checks.bad("account " + name.substring(0, name.length() - 1) + " 0;", 1, 8);
            Checks.bad("account " + name + "a 0;", 1, 8);
            Checks.bad("account " + name.substring(0, name.length() - 1) + "q 0;", 1, 8);
            Checks.bad("account q" + name.substring(1) + " 0;", 1, 8);
        }
        Checks.bad("account account 0;", 1, 8);
        Checks.bad("account journal 0;", 1, 8);
        Checks.bad("account 0 0;", 1, 8);
    }

    @Sentence(under = TERMS, words = "AMOUNT [ - ] NUMBER")
    static void oneMinusOrNone() {
        Checks.due("5", Checks.of("account cash 5;").account(0, 1), 5);
        Checks.due("-5", Checks.of("account cash -5;").account(0, 1), -5);
        Checks.due("- 5", Checks.of("account cash - 5;").account(0, 1), -5);
        Checks.bad("account cash --5;", 1, 14);
        Checks.bad("account cash - -5;", 1, 15);
        Checks.bad("account cash 5-;", 1, 14);
        Checks.bad("account cash -;", 1, 14);
        Checks.bad("account cash -cash;", 1, 14);
        Checks.bad(CASH + "journal 0 0 1 0 --1;", 1, 32);
        Checks.bad(CASH + "journal 0 -0 1 0 -1;", 1, 25);
    }

    @Sentence(under = TERMS, words = "0 to 99999 of an account (what it has at first)")
    static void firstAmountsGoFrom0To99999() {
        String[] amounts = {"0", "-0", "00000", "1", "-1", "99999", "-99999"};
        int[] due = {0, 0, 0, 1, -1, 99999, -99999};
        for (int k = 0; k < due.length; k++) {
            CashDeriver x = Checks.of("account cash " + amounts[k] + ";");
            Checks.due("first of " + amounts[k], x.account(0, 1), due[k]);
            Checks.due("balance of " + amounts[k], x.balance(0, 0), due[k]);
        }
        Checks.bad("account cash 100000;", 1, 13);
        Checks.bad("account cash -100000;", 1, 14);
    }

    @Sentence(under = TERMS, words = "1 to 99999 of a journal")
    static void amountsOfLinesGoFrom1To99999() {
        CashDeriver x = Checks.of(TWO + "journal 0 0 1 1 -1;journal 0 0 -1 1 1;journal 0 0 99999 1 -99999;journal 0 0 -99999 1 99999;");
        int[] due = {1, -1, 99999, -99999};
        for (int n = 0; n < 4; n++) {
            Checks.due("amount of line 0", x.journal(n, 20), due[n]);
            Checks.due("amount of line 1", x.journal(n, 21), -due[n]);
        }
        Checks.bad(TWO + "journal 0 0 0 1 -1;", 2, 42);
        Checks.bad(TWO + "journal 0 0 -0 1 1;", 2, 43);
        Checks.bad(TWO + "journal 0 0 00000 1 -1;", 2, 42);
        Checks.bad(TWO + "journal 0 0 1 1 0;", 2, 46);
        Checks.bad(TWO + "journal 0 0 1 1 -1 0 0;", 2, 51);
        Checks.bad(TWO + "journal 0 0 100000 1 -100000;", 1, 42);
    }

    @Sentence(under = TERMS, words = "PERIOD 0 to 19")
    static void periodsGoFrom0To19() {
        String[] periods = {"0", "00000", "1", "18", "19", "00019"};
        int[] due = {0, 0, 1, 18, 19, 19};
        for (int k = 0; k < due.length; k++) {
            Checks.due("period " + periods[k], Checks.of(CASH + "journal " + periods[k] + " 0 1 0 -1;").journal(0, 0), due[k]);
        }
        Checks.bad(CASH + "journal 20 0 1 0 -1;", 2, 23);
        Checks.bad(CASH + "journal 99999 0 1 0 -1;", 2, 23);
        Checks.bad(CASH + "journal -1 0 1 0 -1;", 1, 23);
        Checks.bad(CASH + "journal -0 0 1 0 -1;", 1, 23);
    }

    @Sentence(under = TERMS, words = "ACCOUNT: one told ahead (numbered from 0).")
    static void accountsOfLinesAreToldAhead() {
        Checks.bad("journal 0 0 1 0 -1;", 2, 10);
        for (int count = 1; count <= 12; count++) {
            String accounts = CASH.repeat(count);
            int last = count - 1;
            CashDeriver x = Checks.of(accounts + "journal 0 0 1 " + last + " -1;");
            Checks.due("first account", x.journal(0, 10), 0);
            Checks.due("last account", x.journal(0, 11), last);
            Checks.bad(accounts + "journal 0 " + count + " 1 0 -1;", 2, accounts.length() + 10);
            Checks.bad(accounts + "journal 0 0 1 " + count + " -1;", 2, accounts.length() + 14);
        }
        Checks.bad(CASH + "journal 0 99999 1 0 -1;", 2, 25);
    }

    @Sentence(under = TERMS, words = "At most 12 ACCOUNTS")
    static void twelveAccountsAndNoThirteenth() {
        Checks.good(CASH.repeat(11), 11);
        Checks.good(CASH.repeat(12), 12);
        Checks.bad(CASH.repeat(13), 3, 180);
        Checks.due("kind of the twelfth", Checks.of(CASH.repeat(11) + "account work 7;").account(11, 0), 1);
    }

    @Sentence(under = TERMS, words = "12 JOURNALS (from 0)")
    static void twelveJournalsAndNoThirteenth() {
        String journal = "journal 0 0 1 0 -1;";
        Checks.good(CASH + journal.repeat(11), 12);
        Checks.good(CASH + journal.repeat(12), 13);
        Checks.bad(CASH + journal.repeat(13), 3, 15 + 12 * 19);
        CashDeriver x = Checks.of(CASH + "journal 5 0 1 0 -1;" + journal.repeat(10) + "journal 9 0 1 0 -1;");
        Checks.due("period of the first", x.journal(0, 0), 5);
        Checks.due("period of the twelfth", x.journal(11, 0), 9);
    }

    @Sentence(under = TERMS, words = "of at most 6 LINES")
    static void sixLinesAndNoSeventh() {
        Checks.good(CASH + "journal 0 0 4 0 -1 0 -1 0 -1 0 -1;", 2);
        Checks.good(CASH + "journal 0 0 5 0 -1 0 -1 0 -1 0 -1 0 -1;", 2);
        Checks.bad(CASH + "journal 0 0 6 0 -1 0 -1 0 -1 0 -1 0 -1 0 -1;", 3, 15 + 39);
        CashDeriver x = Checks.of(TWO + "journal 0 0 5 0 -1 0 -1 0 -1 0 -1 1 -1;");
        Checks.due("lines", x.journal(0, 1), 6);
        Checks.due("account of the sixth", x.journal(0, 15), 1);
        Checks.due("amount of the sixth", x.journal(0, 25), -1);
    }

    @Sentence(under = TERMS, words = "(an ACCOUNT and an AMOUNT: above 0 debited, below 0 credited)")
    static void aboveZeroIsDebited() {
        CashDeriver x = Checks.of(TWO + "journal 0 0 1 1 -1;journal 1 0 -1 1 1;");
        Checks.due("credited", x.piece(0, 0, 0), 1);
        Checks.due("debited", x.piece(0, 0, 1), 0);
        Checks.due("credited the other way", x.piece(1, 0, 0), 0);
        Checks.due("debited the other way", x.piece(1, 0, 1), 1);
        Checks.due("balance behind a debit of 1", x.balance(0, 0), 2);
        Checks.due("balance behind a credit of 1", x.balance(0, 1), 1);
    }

    @Sentence(under = TERMS, words = "which are 0 together.")
    static void linesAreZeroTogetherAndNotOneMoreOrLess() {
        Checks.good(TWO + "journal 0 0 5 1 -5;", 3);
        Checks.bad(TWO + "journal 0 0 6 1 -5;", 4, 48);
        Checks.bad(TWO + "journal 0 0 4 1 -5;", 4, 48);
        Checks.good(TWO + "journal 0 0 1 0 1 0 1 1 -1 1 -1 1 -1;", 3);
        Checks.bad(TWO + "journal 0 0 1 0 1 0 1 1 -1 1 -1 1 -2;", 4, 66);
        Checks.bad(TWO + "journal 0 0 1 0 1 0 1 1 -1 1 -1 1 1;", 4, 65);
        // lines of one account may be 0 together too
        Checks.good(TWO + "journal 0 1 3 1 -3;", 3);
    }
}
