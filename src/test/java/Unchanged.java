import java.util.ArrayList;
import java.util.List;
import java.util.NoSuchElementException;

/**
 * That a call changes nothing: of two objects made alike one also gets the call; then both must answer
 * every look alike, undo alike, and read their tapes alike. No object gets more than 512 calls.
 */
final class Unchanged {
    private static final int BATCH = 250;
    private static final int MOST_UNDONE = 11;
    private static final int[][] PERIODS = {{0, 19}, {0, 0}, {3, 5}, {19, 19}};

    private Unchanged() {
    }

    interface Maker {
        CashDeriver make();
    }

    interface Act {
        void on(CashDeriver x);
    }

    private interface Asked {
        long of(CashDeriver x);
    }

    private record Look(String name, Asked asked) {
        void compare(String call, CashDeriver plain, CashDeriver tried) {
            Checks.due("behind " + call + " " + name, answer(tried), answer(plain));
        }

        private long answer(CashDeriver x) {
            try {
                return asked.of(x);
            } catch (NoSuchElementException e) {
                return Long.MIN_VALUE;
            }
        }
    }

    /** An object in which there is something of all that can change. */
    static CashDeriver rich() {
        CashDeriver x = Checks.of("account cash 100;account work -20;account income 0;account finance 7;"
            + "journal 3 0 5 1 -5;journal 4 0 4 1 3 2 -5 3 -2;journal 5 0 1 1 1 2 1 0 -1 2 -2;");
        x.post(9, 0, 2, 6);
        x.more(3, 1, 3, 6);
        x.strike(1);
        x.tell(0, 50);
        x.turn(3, 5);
        x.tell(2, 0);
        Checks.read(x, "account cash 0;journal 0 0 1 0 1;");
        Checks.write(x, "account invest -1234;account work 56;");
        return x;
    }

    static void by(String call, Act act) {
        by(call, Unchanged::rich, act);
    }

    static void by(String call, Maker maker, Act act) {
        CashDeriver sample = maker.make();
        int accounts = sample.now(0);
        int journals = sample.now(1);
        List<Look> looks = new ArrayList<>();
        addFigures(looks);
        addAccounts(looks, accounts);
        addJournals(looks, journals);
        for (int from = 0; from < looks.size(); from += BATCH) {
            compare(call, maker, act, looks.subList(from, Math.min(from + BATCH, looks.size())));
        }
        compareUndone(call, maker, act);
        compareTapes(call, maker, act);
    }

    private static CashDeriver tried(Maker maker, Act act) {
        CashDeriver x = maker.make();
        act.on(x);
        return x;
    }

    private static void compare(String call, Maker maker, Act act, List<Look> looks) {
        CashDeriver plain = maker.make();
        CashDeriver tried = tried(maker, act);
        for (Look look : looks) {
            look.compare(call, plain, tried);
        }
    }

    private static void addFigures(List<Look> looks) {
        looks.add(new Look("fault()", CashDeriver::fault));
        looks.add(new Look("traced()", CashDeriver::traced));
        for (int n = 0; n < 6; n++) {
            int what = n;
            looks.add(new Look("now(" + what + ")", x -> x.now(what)));
        }
        for (int[] periods : PERIODS) {
            int from = periods[0];
            int to = periods[1];
            looks.add(new Look("change(" + from + ", " + to + ")", x -> x.change(from, to)));
            for (int n = 0; n < 4; n++) {
                int k = n;
                looks.add(new Look("direct(" + k + ", " + from + ", " + to + ", 0)", x -> x.direct(k, from, to, 0)));
                looks.add(new Look("direct(" + k + ", " + from + ", " + to + ", 1)", x -> x.direct(k, from, to, 1)));
                looks.add(new Look("indirect(" + from + ", " + to + ", " + k + ")", x -> x.indirect(from, to, k)));
                looks.add(new Look("makes(" + k + ", " + from + ", " + to + ")", x -> x.makes(k, from, to)));
                looks.add(new Look("deals(" + k + ", 5, " + from + ", " + to + ")", x -> x.deals(k, 5, from, to)));
            }
        }
    }

    /** One account more than there are: it must not have come. */
    private static void addAccounts(List<Look> looks, int accounts) {
        for (int n = 0; n <= accounts; n++) {
            int account = n;
            for (int k = 0; k < 5; k++) {
                int what = k;
                looks.add(new Look("account(" + account + ", " + what + ")", x -> x.account(account, what)));
            }
            for (int period = 0; period < 20; period += 4) {
                int behind = period;
                looks.add(new Look("balance(" + account + ", " + behind + ")", x -> x.balance(account, behind)));
            }
        }
    }

    private static void addJournals(List<Look> looks, int journals) {
        for (int n = 0; n <= journals; n++) {
            int journal = n;
            for (int k = 0; k < 36; k++) {
                int what = k;
                looks.add(new Look("journal(" + journal + ", " + what + ")", x -> x.journal(journal, what)));
            }
            for (int k = 0; k < 20; k++) {
                int piece = k / 4;
                int what = k % 4;
                looks.add(new Look("piece(" + journal + ", " + piece + ", " + what + ")", x -> x.piece(journal, piece, what)));
            }
        }
    }

    /** What is kept to be undone shows only in what undo() brings back. */
    private static void compareUndone(String call, Maker maker, Act act) {
        for (int most = 1; most <= MOST_UNDONE; most++) {
            CashDeriver plain = maker.make();
            CashDeriver tried = tried(maker, act);
            for (int n = 0; n < most; n++) {
                Checks.due("behind " + call + " undo() " + n, tried.undo(), plain.undo());
            }
            compareStates(call + ", undone " + most, plain, tried);
        }
    }

    private static void compareTapes(String call, Maker maker, Act act) {
        CashDeriver plain = maker.make();
        CashDeriver tried = tried(maker, act);
        Checks.due("behind " + call + " text()", tried.text(), plain.text());
        Checks.due("behind " + call + " fault() of it", tried.fault(), plain.fault());
        compareStates(call + ", text()", plain, tried);
    }

    private static void compareStates(String call, CashDeriver plain, CashDeriver tried) {
        List<Look> looks = new ArrayList<>();
        for (int n = 0; n < 6; n++) {
            int what = n;
            looks.add(new Look("now(" + what + ")", x -> x.now(what)));
        }
        for (int n = 0; n < plain.now(0); n++) {
            int account = n;
            looks.add(new Look("kind of " + account, x -> x.account(account, 0)));
            looks.add(new Look("first of " + account, x -> x.account(account, 1)));
            looks.add(new Look("balance of " + account, x -> x.account(account, 2)));
            looks.add(new Look("told of " + account, x -> x.account(account, 3)));
        }
        for (int n = 0; n < plain.now(1); n++) {
            int journal = n;
            looks.add(new Look("lines of " + journal, x -> x.journal(journal, 1)));
            looks.add(new Look("pieces of " + journal, x -> x.journal(journal, 3)));
            looks.add(new Look("struck " + journal, x -> x.journal(journal, 4)));
        }
        for (Look look : looks) {
            look.compare(call, plain, tried);
        }
    }
}
