/** An object's 512 calls, and promises 1 to 5: a new object, feed(), end(), text(), fault(). */
final class TapeEdges {
    private static final String NEW = "Promise 1: A new object";
    private static final String FEED = "Promise 2: feed";
    private static final String END = "Promise 3: end";
    private static final String TEXT = "Promise 4: text";
    private static final String FAULT = "Promise 5: fault";
    private static final String BOOK = "account cash 1;account work 2;journal 3 0 5 1 -5;";
    private static final int MIN = Integer.MIN_VALUE;
    private static final int MAX = Integer.MAX_VALUE;

    private TapeEdges() {
    }

    /** A tape of so many bytes, which begins with a text of 20. */
    private static CashDeriver tapeOf(int size) {
        CashDeriver x = new CashDeriver();
        Checks.write(x, Checks.padded("account cash 12345; ", size, ""));
        return x;
    }

    @Sentence(under = "What it is", words = "An object is used for at most 512 calls after it has been made; what later calls answer is free.")
    static void the512thCallAnswers() {
        CashDeriver x = Checks.of(BOOK);
        // as many calls as Checks.of() made: end(0), three feed()s, end(), text()
        int calls = 6;
        for (int n = 0; calls < 505; n++) {
            Checks.due("strike() " + n, x.strike(0), 1 - n % 2);
            Checks.due("tell() " + n, x.tell(1, n), true);
            Checks.due("feed() " + n, x.feed(n, n, n, n, n), 20);
            Checks.due("text() " + n, x.text() < 0, true);
            calls += 4;
        }
        for (; calls < 511; calls++) {
            Checks.due("undo()", x.undo(), 9 - calls + 506);
        }
        // journal 0 is struck, as the strike() of turn 122 stands
        Checks.due("the 512th call", x.account(1, 2), 2);
    }

    @Sentence(under = NEW, words = "No ACCOUNTS, no JOURNALS")
    static void aNewObjectHasNoAccountsAndNoJournals() {
        CashDeriver x = new CashDeriver();
        Checks.due("accounts", x.now(0), 0);
        Checks.due("journals", x.now(1), 0);
        Checks.dueNoSuchElement("account(0, 0)", () -> x.account(0, 0));
        Checks.dueNoSuchElement("journal(0, 0)", () -> x.journal(0, 0));
        Checks.due("piece(0, 0, 0)", x.piece(0, 0, 0), -1);
        Checks.due("balance(0, 0)", x.balance(0, 0), -100000000);
        Checks.due("direct()", x.direct(0, 0, 19, 2), 0);
        Checks.due("indirect()", x.indirect(0, 19, 0), 0);
        Checks.due("change()", x.change(0, 19), 0);
        Checks.due("makes()", x.makes(0, 0, 19), 0);
        Checks.due("deals()", x.deals(1, 5, 0, 19), 0);
        Checks.due("traced()", x.traced(), 0);
        Checks.due("struck", x.now(2), 0);
        Checks.due("told", x.now(3), 0);
        Checks.due("to be undone", x.now(4), 0);
    }

    @Sentence(under = NEW, words = "an empty tape.")
    static void aNewObjectHasAnEmptyTape() {
        CashDeriver x = new CashDeriver();
        Checks.due("bytes", x.now(5), 0);
        Checks.due("end(1)", x.end(1), false);
        Checks.due("end(0)", x.end(0), true);
        Checks.due("feed()", new CashDeriver().feed(0, 0, 0, 0, 0), 20);
        Checks.due("text() of it", new CashDeriver().text(), 0);
    }

    @Sentence(under = FEED, words = "Twenty bytes come behind the tape, of each number the highest first: how many it has")
    static void twentyBytesTheHighestFirst() {
        CashDeriver x = new CashDeriver();
        // 'acco' 'unt ' 'cash' ' -12' '34; '
        Checks.due("feed()", x.feed(0x6163636f, 0x756e7420, 0x63617368, 0x202d3132, 0x33343b20), 20);
        Checks.due("feed() behind it", x.feed(0x6163636f, 0x756e7420, 0x776f726b, 0x20303030, 0x30313b0a), 40);
        Checks.due("text()", x.text(), 2);
        Checks.due("the first twenty", x.account(0, 1), -1234);
        Checks.due("those behind them", x.account(1, 1), 1);
        Checks.due("kind of those behind", x.account(1, 0), 1);
        Checks.due("behind text() the tape is empty", x.feed(0, 0, 0, 0, 0), 20);
    }

    @Sentence(under = FEED, words = "Twenty bytes come behind the tape, of each number the highest first: how many it has")
    static void bytesOfTheLeastAndGreatestNumbers() {
        int[] numbers = {MIN, MAX, -1, 0, 0x80808080};
        for (int number : numbers) {
            for (int place = 0; place < 5; place++) {
                int[] f = {0x20202020, 0x20202020, 0x0a0a0a0a, 0x20202020, 0x20202020};
                f[place] = number;
                CashDeriver x = new CashDeriver();
                Checks.due("feed()", x.feed(f[0], f[1], f[2], f[3], f[4]), 20);
                Checks.due("text() of " + number + " at " + place, x.text(), -1 - 4 * place);
            }
        }
    }

    @Sentence(under = FEED, words = "NONE, and none come, if it would have more than 640.")
    static void bytesComeUpTo640() {
        CashDeriver x = new CashDeriver();
        for (int n = 1; n <= 32; n++) {
            Checks.due("feed() " + n, x.feed(MAX, MIN, -1, 0, 1), 20 * n);
        }
        Checks.due("bytes", x.now(5), 640);
        CashDeriver y = tapeOf(620);
        Checks.due("feed() behind 620", y.feed(0, 0, 0, 0, 0), 640);
        CashDeriver z = tapeOf(619);
        Checks.due("feed() behind 619", z.feed(0, 0, 0, 0, 0), 639);
    }

    @Sentence(under = FEED, words = "NONE, and none come, if it would have more than 640.")
    static void noneComeBeyond640() {
        for (int size = 621; size <= 640; size++) {
            CashDeriver x = tapeOf(size);
            Checks.due("feed() behind " + size, x.feed(-1, -1, -1, -1, -1), -1);
            Checks.due("bytes", x.now(5), size);
            Checks.due("end() beyond", x.end(size + 1), false);
            Checks.due("again", x.feed(-1, -1, -1, -1, -1), -1);
            // had bytes come, or come at the tape's beginning, this were no text
            Checks.due("end(600)", x.end(600), true);
            Checks.due("text()", x.text(), 1);
            Checks.due("first of its account", x.account(0, 1), 12345);
        }
    }

    @Sentence(under = FEED, words = "NONE, and none come, if it would have more than 640.")
    static void aFeedRefusedChangesNothing() {
        for (int size = 621; size <= 640; size += 19) {
            int bytes = size;
            Unchanged.by("feed() refused", () -> {
                CashDeriver x = Unchanged.rich();
                Checks.write(x, Checks.padded("account cash 0;", bytes, ""));
                return x;
            }, x -> Checks.due("feed()", x.feed(-1, -1, -1, -1, -1), -1));
        }
    }

    @Sentence(under = END, words = "The tape has its first n bytes alone: true")
    static void theFirstBytesStay() {
        for (int n = 0; n <= 20; n++) {
            CashDeriver x = tapeOf(20);
            Checks.due("end(" + n + ")", x.end(n), true);
            Checks.due("bytes", x.now(5), n);
            Checks.due("end() again", x.end(n), true);
            // the text is whole with its ; at byte 18
            Checks.due("text() of " + n, x.text(), n == 0 ? 0 : n >= 19 ? 1 : n < 7 || n > 8 && n < 12 ? -1 - (n < 7 ? 0 : 8) : -1 - n);
        }
        CashDeriver full = tapeOf(640);
        Checks.due("end(640)", full.end(640), true);
        Checks.due("end(639)", full.end(639), true);
        Checks.due("bytes", full.now(5), 639);
        Checks.due("end(0)", full.end(0), true);
        Checks.due("bytes", full.now(5), 0);
    }

    @Sentence(under = END, words = "The tape has its first n bytes alone: true")
    static void bytesCutAwayDoNotComeBack() {
        CashDeriver x = tapeOf(20);
        x.end(8);
        Checks.due("end(9) behind end(8)", x.end(9), false);
        // 'work' ' 7; '
        Checks.due("feed() behind end(8)", x.feed(0x776f726b, 0x20373b20, 0x20202020, 0x20202020, 0x20202020), 28);
        Checks.due("text()", x.text(), 1);
        Checks.due("kind", x.account(0, 0), 1);
        Checks.due("first", x.account(0, 1), 7);
    }

    @Sentence(under = END, words = "false, if it has not so many, or n is below 0.")
    static void notSoManyOrBelow0() {
        CashDeriver empty = new CashDeriver();
        Checks.due("end(1) of an empty tape", empty.end(1), false);
        Checks.due("end(-1) of an empty tape", empty.end(-1), false);
        Checks.due("end(641) of a full tape", tapeOf(640).end(641), false);
        Unchanged.by("end() refused", x -> {
            int size = x.now(5);
            Checks.due("one more than it has", x.end(size + 1), false);
            int[] wrong = {-1, -2, -size, 640, 641, MIN, MIN + 1, MAX, MAX - 1};
            for (int n : wrong) {
                Checks.due("end(" + n + ")", x.end(n), false);
                Checks.due("bytes", x.now(5), size);
            }
        });
    }

    @Sentence(under = TEXT, words = "The tape (empty then, even with a FAULT) is a TEXT: how many LINES of it (accounts and journals)")
    static void accountsAndJournalsAreCounted() {
        Checks.good("", 0);
        Checks.good("account cash 0;", 1);
        Checks.good("account cash 0;journal 0 0 1 0 -1;", 2);
        Checks.good("account cash 0;journal 0 0 5 0 -1 0 -1 0 -1 0 -1 0 -1;", 2);
        Checks.good("account cash 0;".repeat(12) + "journal 0 0 1 0 -1;".repeat(12), 24);
    }

    @Sentence(under = TEXT, words = "The tape (empty then, even with a FAULT) is a TEXT: how many LINES of it (accounts and journals)")
    static void theTapeIsEmptyThenEvenWithAFault() {
        String[] texts = {BOOK, "", "$", "account", BOOK + "journal 20", BOOK + "journal 0 0 1 0 1;", Checks.padded("", 640, "")};
        for (String text : texts) {
            CashDeriver x = new CashDeriver();
            Checks.read(x, text);
            Checks.due("bytes behind " + text, x.now(5), 0);
            Checks.due("end(1) behind " + text, x.end(1), false);
            Checks.due("feed() behind " + text, x.feed(0, 0, 0, 0, 0), 20);
            Checks.due("text() behind " + text, x.text(), -1);
        }
    }

    @Sentence(under = TEXT, words = "-1 less the place of a FAULT: all stays.")
    static void theFirstAndTheLastPlaceOfAFault() {
        Checks.due("place 0", Checks.read(new CashDeriver(), "$"), -1);
        Checks.due("place 1", Checks.read(new CashDeriver(), " $"), -2);
        Checks.due("place 599", Checks.read(new CashDeriver(), Checks.padded("", 600, "$")), -600);
        Checks.due("place 600", Checks.read(new CashDeriver(), Checks.padded("", 601, "$")), -601);
        Checks.due("place 600 of 640", Checks.read(new CashDeriver(), Checks.padded("", 640, "$")), -601);
    }

    @Sentence(under = TEXT, words = "-1 less the place of a FAULT: all stays.")
    static void allStaysBehindAFault() {
        // faults of each kind, most of them far behind what was read well; the tape and fault() alone are other ones
        String begun = "account work 9;account work 8;journal 0 0 5 1 -5;";
        String[] texts = {"$", begun + "$", begun + "journal 20", begun + "journal 0 0 5 1 -4;", "account work 9;".repeat(13)};
        int[] kinds = {1, 1, 2, 4, 3};
        for (int k = 0; k < texts.length; k++) {
            String text = texts[k];
            int kind = kinds[k];
            Unchanged.by("text() of " + text, () -> {
                CashDeriver x = Unchanged.rich();
                if (kind != 4) {
                    Checks.read(x, kind == 1 ? "account" : kind == 2 ? "account cash 0;journal 20" : "account cash 0;".repeat(13));
                }
                x.end(0);
                return x;
            }, x -> {
                Checks.due("text()", Checks.read(x, text) < 0, true);
                Checks.due("fault()", x.fault(), kind);
            });
        }
    }

    @Sentence(under = FAULT, words = "The kind of the FAULT of the latest text()")
    static void theKindOfTheLatestText() {
        String cash = "account cash 0;";
        String[] texts = {"$", cash + "journal 20", cash.repeat(13), cash + "journal 0 0 1 0 1;", cash, "account"};
        int[] kinds = {1, 2, 3, 4, 0, 1};
        CashDeriver x = new CashDeriver();
        for (int k = 0; k < texts.length; k++) {
            Checks.write(x, texts[k]);
            Checks.due("fault() ahead of text()", x.fault(), k == 0 ? 0 : kinds[k - 1]);
            x.text();
            Checks.due("fault() behind " + texts[k], x.fault(), kinds[k]);
            Checks.due("fault() again", x.fault(), kinds[k]);
        }
        x.post(0, 0, 0, 0);
        x.strike(0);
        x.undo();
        x.feed(1, 1, 1, 1, 1);
        Checks.due("other calls leave it", x.fault(), 1);
    }

    @Sentence(under = FAULT, words = "0 without one and ahead of any.")
    static void zeroWithoutOneAndAheadOfAny() {
        CashDeriver x = new CashDeriver();
        Checks.due("ahead of any", x.fault(), 0);
        x.feed(-1, -1, -1, -1, -1);
        Checks.due("ahead of any, with a tape that is no text", x.fault(), 0);
        x.text();
        Checks.due("with one", x.fault(), 1);
        Checks.due("the empty text", x.text(), 0);
        Checks.due("without one", x.fault(), 0);
    }
}
