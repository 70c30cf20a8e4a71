/** Promise 22: undo(). */
final class UndoEdges {
    private static final String UNDO = "Promise 22: undo";
    private static final String BOOK = "account cash 10;account work 20;account finance 30;"
        + "journal 3 0 5 1 -5;journal 4 0 9 1 -4 2 -5;journal 5 0 1 1 1 2 1 0 -1 2 -2;";

    private UndoEdges() {
    }

    private static CashDeriver book() {
        return Checks.of(BOOK);
    }

    /** An act that is undone at once leaves all as it was. */
    private static void undone(String call, Unchanged.Act act) {
        Unchanged.by(call + ", undone", UndoEdges::book, x -> {
            act.on(x);
            Checks.due("to be undone", x.now(4), 1);
            Checks.due("undo()", x.undo(), 0);
        });
        Unchanged.by(call + ", undone behind others", Unchanged::rich, x -> {
            act.on(x);
            Checks.due("to be undone", x.now(4), 7);
            Checks.due("undo()", x.undo(), 6);
        });
    }

    @Sentence(under = UNDO, words = "The latest post(), more(), strike(), tell(), turn() that was done is undone")
    static void eachOfTheFiveIsUndone() {
        undone("post()", x -> x.post(0, 0, 1, 99999));
        undone("more()", x -> x.more(0, 2, 1, 5));
        undone("strike()", x -> x.strike(0));
        undone("tell()", x -> x.tell(0, 0));
        undone("tell() of another", x -> x.tell(1, -9999999));
        undone("turn()", x -> x.turn(0, 5));
        undone("turn() to what it is", x -> x.turn(0, 0));
    }

    @Sentence(under = UNDO, words = "The latest post(), more(), strike(), tell(), turn() that was done is undone")
    static void theLatestIsUndoneFirst() {
        CashDeriver x = book();
        x.tell(0, 1);
        x.tell(0, 2);
        x.turn(0, 3);
        x.tell(0, 4);
        x.undo();
        Checks.due("told", x.account(0, 3), 2);
        Checks.due("kind stays", x.account(0, 0), 3);
        x.undo();
        Checks.due("kind", x.account(0, 0), 0);
        x.undo();
        Checks.due("told ahead", x.account(0, 3), 1);
        x.undo();
        Checks.due("none told", x.now(3), 0);
        // one posted, lengthened and struck is gone by all three
        x.post(9, 0, 1, 6);
        x.more(3, 1, 2, 7);
        x.strike(3);
        Checks.due("undo() of strike()", x.undo(), 2);
        Checks.due("counts", x.journal(3, 4), 0);
        Checks.due("undo() of more()", x.undo(), 1);
        Checks.due("lines", x.journal(3, 1), 2);
        Checks.due("pieces", x.journal(3, 3), 1);
        Checks.due("undo() of post()", x.undo(), 0);
        Checks.dueNoSuchElement("it is gone", () -> x.journal(3, 0));
        Checks.due("one in its place", x.post(1, 1, 0, 2), 3);
        Checks.due("lines of it", x.journal(3, 1), 2);
        Checks.due("it counts", x.journal(3, 4), 0);
    }

    @Sentence(under = UNDO, words = "The latest post(), more(), strike(), tell(), turn() that was done is undone")
    static void whatWasRefusedOrIsNoActIsGoneBy() {
        CashDeriver x = book();
        x.turn(0, 5);
        x.post(0, 0, 0, 1);
        x.more(2, 0, 1, 1);
        x.strike(3);
        x.tell(0, 10000000);
        x.turn(0, 6);
        x.feed(0, 0, 0, 0, 0);
        x.end(0);
        x.traced();
        Checks.due("to be undone", x.now(4), 1);
        Checks.due("undo()", x.undo(), 0);
        Checks.due("kind", x.account(0, 0), 0);
        Checks.due("an undo() is no act", x.undo(), -1);
        Checks.due("kind stays", x.account(0, 0), 0);
    }

    @Sentence(under = UNDO, words = "how many more can be (10 at most are kept)")
    static void tenAreKeptAndNoEleventh() {
        for (int acts = 1; acts <= 13; acts++) {
            CashDeriver x = book();
            for (int n = 1; n <= acts; n++) {
                x.tell(0, n);
                Checks.due("to be undone behind " + n, x.now(4), Math.min(n, 10));
            }
            int kept = Math.min(acts, 10);
            for (int left = kept - 1; left >= 0; left--) {
                Checks.due("undo() of " + acts, x.undo(), left);
                Checks.due("to be undone", x.now(4), left);
            }
            Checks.due("told behind all of " + acts, x.account(0, 3), acts - kept);
            Checks.due("accounts told", x.now(3), acts > 10 ? 1 : 0);
            Checks.due("one more", x.undo(), -1);
            Checks.due("told stays", x.account(0, 3), acts - kept);
        }
    }

    @Sentence(under = UNDO, words = "how many more can be (10 at most are kept)")
    static void theEleventhGoesWhateverItWas() {
        // the first of eleven acts stands behind ten undo()s, whichever of the five it is
        for (int first = 0; first < 5; first++) {
            CashDeriver x = book();
            doOne(x, first);
            for (int n = 0; n < 10; n++) {
                doOne(x, n % 5);
            }
            for (int left = 9; left >= 0; left--) {
                Checks.due("undo()", x.undo(), left);
            }
            Checks.due("journals", x.now(1), first == 0 ? 4 : 3);
            Checks.due("lines", x.journal(0, 1), first == 1 ? 4 : 2);
            Checks.due("struck", x.journal(1, 4), first == 2 ? 1 : 0);
            Checks.due("told", x.now(3), first == 3 ? 1 : 0);
            Checks.due("kind", x.account(2, 0), first == 4 ? 5 : 4);
            Checks.due("no more", x.undo(), -1);
        }
    }

    private static void doOne(CashDeriver x, int act) {
        switch (act) {
            case 0 -> x.post(0, 0, 1, 3);
            case 1 -> x.more(x.journal(0, 1) > 4 ? x.now(1) - 1 : 0, 0, 1, 3);
            case 2 -> x.strike(1);
            case 3 -> x.tell(2, 0);
            default -> x.turn(2, 5);
        }
    }

    @Sentence(under = UNDO, words = "how many more can be (10 at most are kept)")
    static void roomComesBackWithUndo() {
        CashDeriver x = book();
        for (int n = 0; n < 10; n++) {
            x.tell(0, n);
        }
        Checks.due("undo()", x.undo(), 9);
        x.tell(0, 20);
        Checks.due("ten again", x.now(4), 10);
        for (int left = 9; left >= 0; left--) {
            Checks.due("undo()", x.undo(), left);
        }
        Checks.due("nothing was pushed out", x.now(3), 0);
    }

    @Sentence(under = UNDO, words = "NONE: none is.")
    static void noneToUndo() {
        Checks.due("of a new object", new CashDeriver().undo(), -1);
        Unchanged.by("undo() of none", UndoEdges::book, x -> Checks.due("undo()", x.undo(), -1));
        Unchanged.by("undo() of none behind all", () -> {
            CashDeriver x = Unchanged.rich();
            for (int left = 5; left >= 0; left--) {
                Checks.due("undo()", x.undo(), left);
            }
            return x;
        }, x -> {
            Checks.due("undo()", x.undo(), -1);
            Checks.due("undo() again", x.undo(), -1);
        });
        CashDeriver y = book();
        y.strike(0);
        Checks.read(y, "$");
        Checks.due("a text with a fault leaves what can be undone", y.undo(), 0);
        y.strike(0);
        Checks.read(y, BOOK);
        Checks.due("a new text leaves none", y.undo(), -1);
    }
}
