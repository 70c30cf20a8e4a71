/** Promises 4 and 5: text(), fault(); TOKENS, TEXT and FAULTS of the document's terms. */
final class TextTest {
    private static final String CASH = "account cash 0;";
    private static final String TWO = "account cash 1;account work 2;";

    public static void main(String[] args) {
        checkTexts();
        checkTokens();
        checkWhatCantCome();
        checkNumbers();
        checkTooMany();
        checkBalance();
        checkFirstFault();
        checkLongTexts();
        checkStateStays();
        checkNewText();
        Checks.finish();
    }

    private static void checkTexts() {
        Checks.good("", 0);
        Checks.good(" \n \n", 0);
        Checks.good("account cash 0;", 1);
        Checks.good("account cash -99999;", 1);
        Checks.good("account cash - \n 00000 ;\n", 1);
        Checks.good("account cash-0;account\ncurrency\n99999;", 2);
        Checks.good(TWO + "journal 0 0 1 1-1;", 3);
        Checks.good(TWO + "journal 19 0 99999 1 - 99999 ; journal 00019 00001 00001 00000 -1;", 4);
        Checks.good(TWO + "journal 5 0 1 0 -1;", 3);
        Checks.good(TWO + "journal 5 0 5 1 -1 1 -1 1 -1 1 -1 1 -1;", 3);
        CashDeriver x = Checks.of("account work 3;account income 4;account invest 5;account finance 6;account currency 7;account cash -8;");
        for (int n = 0; n < 6; n++) {
            Checks.due("kind of " + n, x.account(n, 0), n < 5 ? n + 1 : 0);
            Checks.due("first of " + n, x.account(n, 1), n < 5 ? n + 3 : -8);
        }
    }

    private static void checkTokens() {
        Checks.bad("Account cash 0;", 1, 0);
        Checks.bad("account\tcash 0;", 1, 7);
        Checks.bad("account\rcash 0;", 1, 7);
        Checks.bad("account cash 0,", 1, 14);
        Checks.bad("account cash 0.", 1, 14);
        Checks.bad("account cash +1;", 1, 13);
        Checks.bad("account cash0;", 1, 8);
        Checks.bad("account cash9 0;", 1, 8);
        Checks.bad("account casha 0;", 1, 8);
        Checks.bad("account cashz 0;", 1, 8);
        Checks.bad("zccount cash 0;", 1, 0);
        Checks.bad("account cash 0x;", 1, 13);
        Checks.bad("account cash 123456;", 1, 13);
        Checks.bad("account cash 000000;", 1, 13);
        Checks.bad("account cash -123456;", 1, 14);
        Checks.bad("accountcash 0;", 1, 0);
        Checks.bad("account casH 0;", 1, 8);
        Checks.bad("account 0cash 0;", 1, 8);
        Checks.bad(CASH + "{", 1, 15);
        Checks.bad(CASH + "`", 1, 15);
        Checks.bad(CASH + "/", 1, 15);
        Checks.bad(CASH + ":", 1, 15);
        Checks.bad(CASH + "\0", 1, 15);
        Checks.bad(CASH + " \u00ff", 1, 16);
        Checks.bad(CASH + " \u00bb", 1, 16);
    }

    private static void checkWhatCantCome() {
        Checks.bad("cash", 1, 0);
        Checks.bad("5", 1, 0);
        Checks.bad(";", 1, 0);
        Checks.bad("-", 1, 0);
        Checks.bad("journals 0", 1, 0);
        Checks.bad("journa 0", 1, 0);
        Checks.bad("account", 1, 7);
        Checks.bad("account  ", 1, 9);
        Checks.bad("account 0;", 1, 8);
        Checks.bad("account account 0;", 1, 8);
        Checks.bad("account cashier 0;", 1, 8);
        Checks.bad("account currenc 0;", 1, 8);
        Checks.bad("account cash", 1, 12);
        Checks.bad("account cash ;", 1, 13);
        Checks.bad("account cash cash;", 1, 13);
        Checks.bad("account cash -", 1, 14);
        Checks.bad("account cash --5;", 1, 14);
        Checks.bad("account cash - ;", 1, 15);
        Checks.bad("account cash 5", 1, 14);
        Checks.bad("account cash 5 \n", 1, 16);
        Checks.bad("account cash 5 5;", 1, 15);
        Checks.bad("account cash 5-;", 1, 14);
        Checks.bad("account cash 5;;", 1, 15);
        Checks.bad("account cash 5;5", 1, 15);
        Checks.bad(CASH + "journal", 1, 22);
        Checks.bad(CASH + "journal ;", 1, 23);
        Checks.bad(CASH + "journal -0 ", 1, 23);
        Checks.bad(CASH + "journal cash", 1, 23);
        Checks.bad(CASH + "journal 0", 1, 24);
        Checks.bad(CASH + "journal 0;", 1, 24);
        Checks.bad(CASH + "journal 0 -0", 1, 25);
        Checks.bad(CASH + "journal 0 cash", 1, 25);
        Checks.bad(CASH + "journal 0 0", 1, 26);
        Checks.bad(CASH + "journal 0 0;", 1, 26);
        Checks.bad(CASH + "journal 0 0 5;", 1, 28);
        Checks.bad(CASH + "journal 0 0 5 0;", 1, 30);
        Checks.bad(CASH + "journal 0 0 5 0 -5", 1, 33);
        Checks.bad(CASH + "journal 0 0 5 0 -5-", 1, 33);
        Checks.bad(CASH + "journal 0 0 5 0 -5 journal", 1, 34);
        Checks.bad(CASH + "journal 0 0 5 0 -5 0;", 1, 35);
        Checks.bad(CASH + "journal 0 0 5 0 -5;account cash 0;", 1, 34);
        Checks.bad(CASH + "journal 0 0 5 0 -5;cash", 1, 34);
        Checks.bad(CASH + "journal 0 0 5 0 -5;-", 1, 34);
    }

    private static void checkNumbers() {
        Checks.bad("journal 0 0 1 0 -1;", 2, 10);
        Checks.bad("journal 20 0 1 0 -1;", 2, 8);
        Checks.bad("journal 99999 0 1 0 -1;", 2, 8);
        Checks.bad(CASH + "journal 20 0 1 0 -1;", 2, 23);
        Checks.bad(CASH + "journal 0 1 1 0 -1;", 2, 25);
        Checks.bad(CASH + "journal 0 0 1 1 -1;", 2, 29);
        Checks.bad(CASH + "journal 0 0 1 99999 -1;", 2, 29);
        Checks.bad(CASH + "journal 0 0 0 0 0;", 2, 27);
        Checks.bad(CASH + "journal 0 0 1 0 -0;", 2, 32);
        Checks.bad(CASH + "journal 0 0 - 00000", 2, 29);
        Checks.bad(TWO + "journal 0 2 1", 2, 40);
    }

    private static void checkTooMany() {
        String twelve = "account cash 0;".repeat(12);
        Checks.good(twelve, 12);
        Checks.bad(twelve + "account", 3, 180);
        Checks.bad(twelve + " account foo", 3, 181);
        Checks.bad(twelve + "accounts", 1, 180);
        String journals = "journal 0 0 1 1 -1;".repeat(12);
        Checks.good(TWO + journals, 14);
        Checks.bad(TWO + journals + "journal", 3, 30 + 12 * 19);
        Checks.bad(TWO + journals + "account", 1, 30 + 12 * 19);
        Checks.bad(twelve + "journal 0 0 1 0 -1;account", 1, 199);
        String six = CASH + "journal 0 0 1 0 1 0 1 0 -1 0 -1 0 -1";
        Checks.good(six + ";", 2);
        Checks.bad(six + " 0", 3, six.length() + 1);
        Checks.bad(six + " 0 1;", 3, six.length() + 1);
        Checks.bad(six + " 1 1;", 2, six.length() + 1);
        Checks.bad(six + " -", 1, six.length() + 1);
        Checks.bad(six, 1, six.length());
        Checks.bad(six + " cash", 1, six.length() + 1);
        // a seventh line is met ahead of the sum of all
        Checks.bad(CASH + "journal 0 0 1 0 1 0 1 0 1 0 1 0 1 0 -6;", 3, CASH.length() + 34);
    }

    private static void checkBalance() {
        Checks.bad(CASH + "journal 0 0 1 0 1;", 4, 32);
        Checks.bad(CASH + "journal 0 0 1 0 -2 ;", 4, 34);
        Checks.bad(CASH + "journal 0 0 99999 0 99999 0 99999 0 99999 0 99999 0 99999;", 4, 72);
        Checks.bad(CASH + "journal 0 0 1 0 -1; journal 0 0 -3 0 1 0 1;", 4, 57);
    }

    private static void checkFirstFault() {
        Checks.bad("account cash 0 account foo;", 1, 15);
        Checks.bad(CASH + "journal 20 9 0 0 1;", 2, 23);
        Checks.bad(CASH + "journal 0 9 0 0 1;", 2, 25);
        Checks.bad(CASH + "journal 0 0 1 0 1; $", 4, 32);
        Checks.bad(CASH + "journal 0 0 1 0 1 $;", 1, 33);
    }

    private static void checkLongTexts() {
        Checks.good(Checks.padded(CASH, 600, ""), 1);
        Checks.bad(Checks.padded(CASH, 601, ""), 1, 600);
        Checks.bad(Checks.padded(CASH, 640, ""), 1, 600);
        Checks.bad(Checks.padded(CASH, 640, CASH), 1, 600);
        Checks.good(Checks.padded(CASH, 600, CASH), 2);
        Checks.bad(Checks.padded(CASH, 601, CASH), 1, 600);
        Checks.bad(Checks.padded("account", 600, ""), 1, 600);
        Checks.bad(Checks.padded("account", 599, ""), 1, 599);
        Checks.bad(Checks.padded("", 640, "$"), 1, 600);
        Checks.bad(Checks.padded("", 601, "$"), 1, 600);
        Checks.bad(Checks.padded("", 600, "$"), 1, 599);
        Checks.bad(Checks.padded("$", 640, ""), 1, 0);
        // tokens that begin ahead of byte 600 are read whole
        Checks.bad(Checks.padded(CASH, 603, "account"), 1, 600);
        Checks.bad(Checks.padded(CASH, 603, "accounx"), 1, 596);
        Checks.bad(Checks.padded(CASH, 606, "account"), 1, 600);
        Checks.bad(Checks.padded(CASH, 607, "accounx"), 1, 600);
        Checks.bad(Checks.padded("account cash", 604, "12345"), 1, 600);
        Checks.bad(Checks.padded("account cash", 605, "123456"), 1, 599);
        Checks.bad(Checks.padded(CASH + "journal", 601, "19"), 1, 600);
        Checks.bad(Checks.padded(CASH + "journal", 601, "20"), 2, 599);
        Checks.bad(Checks.padded(CASH + "journal 0", 601, "10"), 2, 599);
        Checks.bad(Checks.padded(CASH + "journal 0 0 1 0 1", 600, ";"), 4, 599);
        Checks.bad(Checks.padded(CASH + "journal 0 0 1 0 1", 601, ";"), 1, 600);
        Checks.bad(Checks.padded("account cash 0;".repeat(12), 606, "account"), 3, 599);
        Checks.bad(Checks.padded("account cash 0;".repeat(12), 607, "account"), 1, 600);
        Checks.bad(Checks.padded("account cash 0;", 607, "accounty"), 1, 599);
        Checks.bad(Checks.padded("account", 603, "cash"), 1, 600);
        Checks.bad(Checks.padded("account", 603, "cast"), 1, 599);
    }

    private static void checkStateStays() {
        CashDeriver x = Checks.of(TWO + "journal 3 0 5 1 -5;");
        x.tell(0, 6);
        x.strike(0);
        Checks.due("a bad text", Checks.read(x, "account cash 9;account foo"), -24);
        Checks.due("fault()", x.fault(), 1);
        Checks.due("now(0) stays", x.now(0), 2);
        Checks.due("now(1) stays", x.now(1), 1);
        Checks.due("now(2) stays", x.now(2), 1);
        Checks.due("now(3) stays", x.now(3), 1);
        Checks.due("now(4) stays", x.now(4), 2);
        Checks.due("account(0, 1) stays", x.account(0, 1), 1);
        Checks.due("journal(0, 0) stays", x.journal(0, 0), 3);
        Checks.due("undo() goes on", x.undo(), 1);
        Checks.due("strike(0) was undone", x.journal(0, 4), 0);
        Checks.due("a bad text of another fault", Checks.read(x, CASH + "journal 0 0 1 0 1;"), -33);
        Checks.due("fault() of the latest", x.fault(), 4);
        x.post(0, 0, 1, 1);
        Checks.due("fault() stays with other calls", x.fault(), 4);
        Checks.due("pieces stay", x.piece(0, 0, 2), 5);
        Checks.due("a good text", Checks.read(x, CASH), 1);
        Checks.due("fault() without one", x.fault(), 0);
    }

    private static void checkNewText() {
        CashDeriver x = Checks.of(TWO + "journal 3 0 5 1 -5;");
        x.tell(0, 6);
        x.tell(1, 6);
        x.turn(1, 4);
        x.strike(0);
        x.post(9, 0, 1, 7);
        Checks.due("the same text again", Checks.read(x, TWO + "journal 3 0 5 1 -5;"), 3);
        Checks.due("journals", x.now(1), 1);
        Checks.due("nothing struck", x.now(2), 0);
        Checks.due("nothing told", x.now(3), 0);
        Checks.due("nothing to undo", x.now(4), 0);
        Checks.due("undo()", x.undo(), -1);
        Checks.due("kinds as told", x.account(1, 0), 1);
        Checks.due("told", x.account(0, 3), 0);
        Checks.due("residual", x.account(0, 4), 0);
        Checks.due("counts", x.journal(0, 4), 0);
        Checks.due("the empty text", x.text(), 0);
        Checks.due("no accounts", x.now(0), 0);
        Checks.due("no journals", x.now(1), 0);
        Checks.dueNoSuchElement("account(0, 0)", () -> x.account(0, 0));
        Checks.dueNoSuchElement("journal(0, 0)", () -> x.journal(0, 0));
    }
}
