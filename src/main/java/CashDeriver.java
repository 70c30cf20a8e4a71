import java.util.NoSuchElementException;

/** Derives a cash statement from accounts and journals. The promises stand in ../shared/DOC.md. */
public final class CashDeriver {
    public static final int NONE = -1;

    /** Stands for "no such figure" where NONE itself may be a figure. */
    private static final int NO_FIGURE = NONE - 99999999;
    private static final int NO_ROOM = -2;

    private static final int PERIODS = 20;
    private static final int MOST_ACCOUNTS = 12;
    private static final int MOST_TEXT_JOURNALS = 12;
    private static final int MOST_JOURNALS = 30;
    private static final int LEAST_LINES = 2;
    private static final int MOST_LINES = 6;
    private static final int MOST_AMOUNT = 99999;
    private static final int MOST_TOLD = 9999999;
    /** No balance that can be told is so low, so it marks an account of which nothing is told. */
    private static final int UNTOLD = NO_FIGURE;

    private static final int KINDS = 6;
    private static final int CASH = 0;
    private static final int WORK = 1;
    private static final int INCOME = 2;

    private static final int OPERATING = 0;
    private static final int CLASSES = 4;
    private static final int DEAL = 4;
    private static final int NOTHING = 5;

    private static final int POSTED = 0;
    private static final int LENGTHENED = 1;
    private static final int STRICKEN = 2;
    private static final int TOLD = 3;
    private static final int TURNED = 4;

    private final Tape tape;
    private final Reader reader;
    private final Parter parter;
    private final Tracer tracer;
    private final Acts acts;
    private Book book;
    /** A text is read into this one, so that a text with a fault leaves the book as it is. */
    private Book draft;

    public CashDeriver() {
        tape = new Tape();
        reader = new Reader(tape);
        parter = new Parter();
        tracer = new Tracer();
        acts = new Acts();
        book = new Book();
        draft = new Book();
    }

    public int feed(int a, int b, int c, int d, int e) {
        if (tape.room() < 20) {
            return NONE;
        }
        tape.append(a);
        tape.append(b);
        tape.append(c);
        tape.append(d);
        tape.append(e);
        return tape.size();
    }

    public boolean end(int n) {
        return tape.cut(n);
    }

    public int text() {
        boolean whole = reader.read(draft);
        tape.cut(0);
        if (!whole) {
            return -1 - reader.faultPlace();
        }
        Book old = book;
        book = draft;
        draft = old;
        for (int n = 0; n < book.journals(); n++) {
            settle(book.find(n));
        }
        acts.clear();
        return book.accounts() + book.journals();
    }

    public int fault() {
        return reader.faultKind();
    }

    public int now(int what) {
        switch (what) {
            case 0: return book.accounts();
            case 1: return book.journals();
            case 2: return book.struckOnes();
            case 3: return book.toldOnes();
            case 4: return acts.size();
            case 5: return tape.size();
            default: return NONE;
        }
    }

    public int account(int account, int what) throws NoSuchElementException {
        if (!book.hasAccount(account)) {
            throw new NoSuchElementException("no such account");
        }
        switch (what) {
            case 0: return book.kindOf(account);
            case 1: return book.firstOf(account);
            case 2: return book.balanceOf(account, PERIODS - 1);
            case 3: return book.isTold(account) ? book.toldOf(account) : 0;
            case 4: return book.residualOf(account);
            default: throw new NoSuchElementException("an account has no such figure");
        }
    }

    public int journal(int journal, int what) throws NoSuchElementException {
        Journal found = book.find(journal);
        if (found == null) {
            throw new NoSuchElementException("no such journal");
        }
        switch (what) {
            case 0: return found.period();
            case 1: return found.lines();
            case 2: return found.groups();
            case 3: return found.pieces();
            case 4: return found.isStruck() ? 1 : 0;
            default: break;
        }
        int line = what % 10;
        if (what < 10 || what >= 40 || line >= found.lines()) {
            throw new NoSuchElementException("a journal has no such figure");
        }
        switch (what / 10) {
            case 1: return found.accountOf(line);
            case 2: return found.amountOf(line);
            default: return found.groupOf(line);
        }
    }

    public int piece(int journal, int k, int what) {
        Journal found = book.find(journal);
        if (found == null || k < 0 || k >= found.pieces()) {
            return NONE;
        }
        switch (what) {
            case 0: return found.creditedOf(k);
            case 1: return found.debitedOf(k);
            case 2: return found.movedOf(k);
            case 3: return book.sortOf(found, k);
            default: return NONE;
        }
    }

    public int direct(int sort, int from, int to, int what) {
        if (!isClass(sort) || !arePeriods(from, to) || what < 0 || what > 2) {
            return NO_FIGURE;
        }
        int in = what == 1 ? 0 : book.cashMoved(sort, true, from, to);
        int out = what == 0 ? 0 : book.cashMoved(sort, false, from, to);
        return what == 1 ? out : in - out;
    }

    public int indirect(int from, int to, int what) {
        if (!arePeriods(from, to) || what < 0 || what > 3) {
            return NO_FIGURE;
        }
        int profit = -book.netOfKind(INCOME, from, to);
        int change = -book.netOfKind(WORK, from, to);
        int apart = book.setApart(from, to);
        switch (what) {
            case 1: return profit;
            case 2: return change;
            case 3: return apart;
            default: return profit + change + apart;
        }
    }

    public int change(int from, int to) {
        return arePeriods(from, to) ? book.netOfKind(CASH, from, to) : NO_FIGURE;
    }

    public int makes(int sort, int from, int to) {
        return isClass(sort) && arePeriods(from, to) ? book.makersOf(sort, from, to) : NONE;
    }

    public int deals(int kind, int other, int from, int to) {
        boolean kinds = kind > CASH && kind <= other && other < KINDS;
        return kinds && arePeriods(from, to) ? book.dealt(kind, other, from, to) : NONE;
    }

    public int balance(int account, int period) {
        boolean known = book.hasAccount(account) && isPeriod(period);
        return known ? book.balanceOf(account, period) : NO_FIGURE;
    }

    public int traced() {
        return tracer.trace(book);
    }

    public int post(int period, int debited, int credited, int amount) {
        if (!isPeriod(period) || !isTransfer(debited, credited, amount)) {
            return NONE;
        }
        Journal opened = book.open(period);
        if (opened == null) {
            return NO_ROOM;
        }
        int number = book.journals() - 1;
        addTransfer(opened, debited, credited, amount);
        acts.keep(POSTED, number, NONE);
        return number;
    }

    public int more(int journal, int debited, int credited, int amount) {
        Journal found = book.find(journal);
        if (found == null || !isTransfer(debited, credited, amount)) {
            return NONE;
        }
        if (found.lines() > MOST_LINES - 2) {
            return NO_ROOM;
        }
        addTransfer(found, debited, credited, amount);
        acts.keep(LENGTHENED, journal, NONE);
        return found.lines();
    }

    public int strike(int journal) {
        Journal found = book.find(journal);
        if (found == null) {
            return NONE;
        }
        found.toggle();
        acts.keep(STRICKEN, journal, NONE);
        return found.isStruck() ? 1 : 0;
    }

    public boolean tell(int account, int balance) {
        if (!book.hasAccount(account) || balance < -MOST_TOLD || balance > MOST_TOLD) {
            return false;
        }
        acts.keep(TOLD, account, book.toldOf(account));
        book.setTold(account, balance);
        return true;
    }

    public int turn(int account, int kind) {
        if (!book.hasAccount(account) || kind < 0 || kind >= KINDS) {
            return NONE;
        }
        int before = book.kindOf(account);
        acts.keep(TURNED, account, before);
        book.setKind(account, kind);
        return before;
    }

    public int undo() {
        if (acts.size() == 0) {
            return NONE;
        }
        takeBack(acts.latestSort(), acts.latestTarget(), acts.latestBefore());
        acts.dropLatest();
        return acts.size();
    }

    private static boolean isClass(int sort) {
        return sort >= 0 && sort < CLASSES;
    }

    private static boolean isPeriod(int period) {
        return period >= 0 && period < PERIODS;
    }

    private static boolean arePeriods(int from, int to) {
        return isPeriod(from) && isPeriod(to) && from <= to;
    }

    private boolean isTransfer(int debited, int credited, int amount) {
        return book.hasAccount(debited) && book.hasAccount(credited) && debited != credited
            && amount >= 1 && amount <= MOST_AMOUNT;
    }

    private void addTransfer(Journal journal, int debited, int credited, int amount) {
        journal.add(debited, amount);
        journal.add(credited, -amount);
        settle(journal);
    }

    /** Groups and pieces are kept with a journal, as they change only when its lines do. */
    private void settle(Journal journal) {
        if (journal != null) {
            parter.part(journal);
            parter.cut(journal);
        }
    }

    private void takeBack(int sort, int target, int before) {
        Journal journal = book.find(target);
        switch (sort) {
            case POSTED:
                book.dropLatest();
                break;
            case LENGTHENED:
                if (journal != null) {
                    journal.dropTransfer();
                    settle(journal);
                }
                break;
            case STRICKEN:
                if (journal != null) {
                    journal.toggle();
                }
                break;
            case TOLD:
                book.setTold(target, before);
                break;
            case TURNED:
                book.setKind(target, before);
                break;
            default:
                break;
        }
    }

    /** The bytes that were fed and not yet read. */
    private static final class Tape {
        private static final int MOST_BYTES = 640;

        private final byte[] bytes = new byte[MOST_BYTES];
        private int size = 0;

        int size() {
            return size;
        }

        int room() {
            return MOST_BYTES - size;
        }

        int signAt(int place) {
            return place >= 0 && place < size ? bytes[place] : 0;
        }

        void append(int number) {
            for (int shift = 24; shift >= 0 && size < MOST_BYTES; shift -= 8) {
                bytes[size] = (byte) (number >> shift);
                size++;
            }
        }

        boolean cut(int newSize) {
            if (newSize < 0 || newSize > size) {
                return false;
            }
            size = newSize;
            return true;
        }
    }

    /** Reads the tape as a text into a book, up to the first fault. */
    private static final class Reader {
        private static final int MOST_TEXT = 600;
        private static final int MOST_DIGITS = 5;

        private static final int END = 0;
        private static final int WRONG = 1;
        private static final int WORD = 2;
        private static final int NUMBER = 3;
        private static final int SEMICOLON = 4;
        private static final int MINUS = 5;

        private static final int UNFIT = 1;
        private static final int OUT_OF_RANGE = 2;
        private static final int TOO_MANY = 3;
        private static final int UNBALANCED = 4;

        private final Tape tape;
        private int token = END;
        private int place = 0;
        /** The first byte behind the token. */
        private int next = 0;
        /** Of the token, if it is a NUMBER. */
        private int value = 0;
        /** The latest one that readAmount() read. */
        private int amount = 0;
        private int faultKind = 0;
        private int faultPlace = 0;

        Reader(Tape tape) {
            this.tape = tape;
        }

        int faultKind() {
            return faultKind;
        }

        int faultPlace() {
            return faultPlace;
        }

        boolean read(Book into) {
            into.clear();
            faultKind = 0;
            faultPlace = 0;
            next = 0;
            step();
            for (int n = 0; n <= MOST_ACCOUNTS && isWord("account"); n++) {
                if (!readAccount(into)) {
                    return false;
                }
            }
            for (int n = 0; n <= MOST_TEXT_JOURNALS && isWord("journal"); n++) {
                if (!readJournal(into)) {
                    return false;
                }
            }
            return token == END && tape.size() <= MOST_TEXT || refuse(UNFIT);
        }

        private boolean readAccount(Book into) {
            if (into.accounts() >= MOST_ACCOUNTS) {
                return refuse(TOO_MANY);
            }
            step();
            int kind = kindNamed();
            if (kind == NONE) {
                return refuse(UNFIT);
            }
            step();
            if (!readAmount(0)) {
                return false;
            }
            if (token != SEMICOLON) {
                return refuse(UNFIT);
            }
            into.addAccount(kind, amount);
            step();
            return true;
        }

        private boolean readJournal(Book into) {
            if (into.journals() >= MOST_TEXT_JOURNALS) {
                return refuse(TOO_MANY);
            }
            step();
            if (!isNumberBelow(PERIODS)) {
                return false;
            }
            Journal opened = into.open(value);
            if (opened == null) {
                return refuse(TOO_MANY);
            }
            step();
            for (int n = 0; n < MOST_LINES && !(n >= LEAST_LINES && token == SEMICOLON); n++) {
                if (!readLine(opened, into.accounts())) {
                    return false;
                }
            }
            if (token != SEMICOLON) {
                return isNumberBelow(into.accounts()) && refuse(TOO_MANY);
            }
            if (opened.total() != 0) {
                return refuse(UNBALANCED);
            }
            step();
            return true;
        }

        private boolean readLine(Journal journal, int accounts) {
            if (!isNumberBelow(accounts)) {
                return false;
            }
            int account = value;
            step();
            if (!readAmount(1)) {
                return false;
            }
            journal.add(account, amount);
            return true;
        }

        private boolean readAmount(int least) {
            boolean below = token == MINUS;
            if (below) {
                step();
            }
            if (token != NUMBER) {
                return refuse(UNFIT);
            }
            if (value < least) {
                return refuse(OUT_OF_RANGE);
            }
            amount = below ? -value : value;
            step();
            return true;
        }

        private boolean isNumberBelow(int bound) {
            if (token != NUMBER) {
                return refuse(UNFIT);
            }
            return value < bound || refuse(OUT_OF_RANGE);
        }

        private boolean refuse(int kind) {
            faultKind = kind;
            faultPlace = place;
            return false;
        }

        private int kindNamed() {
            for (int kind = 0; kind < KINDS; kind++) {
                if (isWord(nameOf(kind))) {
                    return kind;
                }
            }
            return NONE;
        }

        private static String nameOf(int kind) {
            switch (kind) {
                case 0: return "cash";
                case 1: return "work";
                case 2: return "income";
                case 3: return "invest";
                case 4: return "finance";
                default: return "currency";
            }
        }

        private boolean isWord(String word) {
            if (token != WORD || next - place != word.length()) {
                return false;
            }
            for (int k = 0; k < word.length(); k++) {
                if (tape.signAt(place + k) != word.charAt(k)) {
                    return false;
                }
            }
            return true;
        }

        /** Goes on to the next token that begins within what a text may have. */
        private void step() {
            int limit = Math.min(tape.size(), MOST_TEXT);
            int at = next;
            while (at < limit && (tape.signAt(at) == ' ' || tape.signAt(at) == '\n')) {
                at++;
            }
            place = Math.min(at, limit);
            next = at + 1;
            int sign = tape.signAt(place);
            if (at >= limit) {
                next = limit;
                token = END;
            } else if (sign == ';') {
                token = SEMICOLON;
            } else if (sign == '-') {
                token = MINUS;
            } else {
                stepOverRun();
            }
        }

        /** A run of letters and digits is read whole, even where it goes on past the limit. */
        private void stepOverRun() {
            int letters = 0;
            int digits = 0;
            value = 0;
            for (int at = place; at < tape.size(); at++) {
                int sign = tape.signAt(at);
                if (sign >= 'a' && sign <= 'z') {
                    letters++;
                } else if (sign >= '0' && sign <= '9') {
                    digits++;
                    value = digits <= MOST_DIGITS ? 10 * value + sign - '0' : value;
                } else {
                    break;
                }
            }
            next = place + Math.max(letters + digits, 1);
            token = WRONG;
            if (digits == 0 && letters > 0) {
                token = WORD;
            } else if (letters == 0 && digits > 0 && digits <= MOST_DIGITS) {
                token = NUMBER;
            }
        }
    }

    /** One journal: its lines, and the groups and pieces that a Parter made of them. */
    private static final class Journal {
        private final int[] lineAccount = new int[MOST_LINES];
        private final int[] lineAmount = new int[MOST_LINES];
        private final int[] lineGroup = new int[MOST_LINES];
        private final int[] pieceCredited = new int[MOST_LINES];
        private final int[] pieceDebited = new int[MOST_LINES];
        private final int[] pieceMoved = new int[MOST_LINES];
        private int period = 0;
        private int lines = 0;
        private int groups = 0;
        private int pieces = 0;
        private boolean struck = false;

        void begin(int newPeriod) {
            period = newPeriod;
            lines = 0;
            groups = 0;
            pieces = 0;
            struck = false;
        }

        int period() {
            return period;
        }

        int lines() {
            return lines;
        }

        int groups() {
            return groups;
        }

        int pieces() {
            return pieces;
        }

        boolean isStruck() {
            return struck;
        }

        void toggle() {
            struck = !struck;
        }

        boolean countsIn(int from, int to) {
            return !struck && period >= from && period <= to;
        }

        void add(int account, int amount) {
            if (lines < MOST_LINES) {
                lineAccount[lines] = account;
                lineAmount[lines] = amount;
                lines++;
            }
        }

        void dropTransfer() {
            lines = Math.max(lines - 2, 0);
        }

        int accountOf(int line) {
            return hasLine(line) ? lineAccount[line] : NONE;
        }

        int amountOf(int line) {
            return hasLine(line) ? lineAmount[line] : 0;
        }

        int groupOf(int line) {
            return hasLine(line) ? lineGroup[line] : NONE;
        }

        int total() {
            int sum = 0;
            for (int k = 0; k < lines; k++) {
                sum += amountOf(k);
            }
            return sum;
        }

        int netOf(int account) {
            int sum = 0;
            for (int k = 0; k < lines; k++) {
                if (accountOf(k) == account) {
                    sum += amountOf(k);
                }
            }
            return sum;
        }

        void setGroup(int line, int group) {
            if (hasLine(line)) {
                lineGroup[line] = group;
            }
        }

        void setGroups(int newGroups) {
            groups = newGroups;
        }

        void dropPieces() {
            pieces = 0;
        }

        void addPiece(int credited, int debited, int moved) {
            if (pieces < MOST_LINES) {
                pieceCredited[pieces] = credited;
                pieceDebited[pieces] = debited;
                pieceMoved[pieces] = moved;
                pieces++;
            }
        }

        int creditedOf(int piece) {
            return hasPiece(piece) ? pieceCredited[piece] : NONE;
        }

        int debitedOf(int piece) {
            return hasPiece(piece) ? pieceDebited[piece] : NONE;
        }

        int movedOf(int piece) {
            return hasPiece(piece) ? pieceMoved[piece] : 0;
        }

        private boolean hasLine(int line) {
            return line >= 0 && line < lines && line < MOST_LINES;
        }

        private boolean hasPiece(int piece) {
            return piece >= 0 && piece < pieces && piece < MOST_LINES;
        }
    }

    /** Parts a journal's lines into groups and cuts these into pieces. */
    private static final class Parter {
        /** So many ways there are to part six lines, balanced or not. */
        private static final int MOST_WAYS = 203;

        /** Of each line the number of its group, in the way that is looked at. */
        private final int[] way = new int[MOST_LINES];
        private final int[] sums = new int[MOST_LINES];
        private final int[] left = new int[MOST_LINES];

        /** Ways come from the least row on, so the first one with the most groups is due. */
        void part(Journal journal) {
            int lines = Math.min(journal.lines(), MOST_LINES);
            int best = 0;
            boolean going = true;
            firstWay();
            for (int n = 0; n < MOST_WAYS && going; n++) {
                int groups = balancedGroups(journal, lines);
                if (groups > best) {
                    best = groups;
                    takeWay(journal, lines);
                }
                going = nextWay(lines);
            }
            journal.setGroups(best);
        }

        void cut(Journal journal) {
            journal.dropPieces();
            for (int k = 0; k < MOST_LINES; k++) {
                left[k] = journal.amountOf(k);
            }
            for (int group = 0; group < journal.groups(); group++) {
                cutGroup(journal, group);
            }
        }

        private void firstWay() {
            for (int k = 0; k < MOST_LINES; k++) {
                way[k] = 0;
            }
        }

        private void takeWay(Journal journal, int lines) {
            for (int k = 0; k < lines; k++) {
                journal.setGroup(k, way[k]);
            }
        }

        private boolean nextWay(int lines) {
            for (int k = lines - 1; k > 0; k--) {
                if (way[k] <= highestAhead(k)) {
                    way[k]++;
                    return true;
                }
                way[k] = 0;
            }
            return false;
        }

        private int highestAhead(int line) {
            int highest = 0;
            for (int k = 0; k < line; k++) {
                highest = Math.max(highest, way[k]);
            }
            return highest;
        }

        /** How many groups there are, or 0 if one of them is not 0 together. */
        private int balancedGroups(Journal journal, int lines) {
            for (int k = 0; k < MOST_LINES; k++) {
                sums[k] = 0;
            }
            for (int k = 0; k < lines; k++) {
                int group = way[k];
                if (group < 0 || group >= MOST_LINES) {
                    return 0;
                }
                sums[group] += journal.amountOf(k);
            }
            for (int k = 0; k < MOST_LINES; k++) {
                if (sums[k] != 0) {
                    return 0;
                }
            }
            return highestAhead(lines) + 1;
        }

        /** Each piece uses up a line at least, so there are no more pieces than lines. */
        private void cutGroup(Journal journal, int group) {
            for (int n = 0; n < MOST_LINES; n++) {
                int credited = firstLeft(journal, group, -1);
                int debited = firstLeft(journal, group, 1);
                if (credited == NONE || debited == NONE) {
                    return;
                }
                int moved = Math.min(-left[credited], left[debited]);
                left[credited] += moved;
                left[debited] -= moved;
                journal.addPiece(journal.accountOf(credited), journal.accountOf(debited), moved);
            }
        }

        private int firstLeft(Journal journal, int group, int sign) {
            for (int k = 0; k < MOST_LINES; k++) {
                if (journal.groupOf(k) == group && left[k] * sign > 0) {
                    return k;
                }
            }
            return NONE;
        }
    }

    /** The accounts and journals, and the figures that they make. */
    private static final class Book {
        private final int[] kinds = new int[MOST_ACCOUNTS];
        private final int[] firsts = new int[MOST_ACCOUNTS];
        private final int[] tolds = new int[MOST_ACCOUNTS];
        private final Journal[] rows = new Journal[MOST_JOURNALS];
        private int accounts = 0;
        private int journals = 0;

        Book() {
            for (int n = 0; n < MOST_JOURNALS; n++) {
                rows[n] = new Journal();
            }
        }

        void clear() {
            accounts = 0;
            journals = 0;
        }

        int accounts() {
            return accounts;
        }

        int journals() {
            return journals;
        }

        boolean hasAccount(int account) {
            return account >= 0 && account < accounts && account < MOST_ACCOUNTS;
        }

        void addAccount(int kind, int first) {
            if (accounts < MOST_ACCOUNTS) {
                kinds[accounts] = kind;
                firsts[accounts] = first;
                tolds[accounts] = UNTOLD;
                accounts++;
            }
        }

        int kindOf(int account) {
            return hasAccount(account) ? kinds[account] : NONE;
        }

        void setKind(int account, int kind) {
            if (hasAccount(account)) {
                kinds[account] = kind;
            }
        }

        int firstOf(int account) {
            return hasAccount(account) ? firsts[account] : 0;
        }

        boolean isTold(int account) {
            return toldOf(account) != UNTOLD;
        }

        int toldOf(int account) {
            return hasAccount(account) ? tolds[account] : UNTOLD;
        }

        void setTold(int account, int balance) {
            if (hasAccount(account)) {
                tolds[account] = balance;
            }
        }

        int toldOnes() {
            int count = 0;
            for (int account = 0; account < accounts; account++) {
                count += isTold(account) ? 1 : 0;
            }
            return count;
        }

        Journal find(int number) {
            return number >= 0 && number < journals && number < MOST_JOURNALS ? rows[number] : null;
        }

        Journal open(int period) {
            if (journals >= MOST_JOURNALS) {
                return null;
            }
            Journal opened = rows[journals];
            if (opened != null) {
                opened.begin(period);
                journals++;
            }
            return opened;
        }

        void dropLatest() {
            journals = Math.max(journals - 1, 0);
        }

        /** The journal, if it counts in these periods, or null. */
        Journal counting(int number, int from, int to) {
            Journal found = find(number);
            return found != null && found.countsIn(from, to) ? found : null;
        }

        int struckOnes() {
            int count = 0;
            for (int n = 0; n < journals; n++) {
                Journal journal = find(n);
                count += journal != null && journal.isStruck() ? 1 : 0;
            }
            return count;
        }

        int balanceOf(int account, int period) {
            int sum = firstOf(account);
            for (int n = 0; n < journals; n++) {
                Journal journal = counting(n, 0, period);
                sum += journal == null ? 0 : journal.netOf(account);
            }
            return sum;
        }

        int residualOf(int account) {
            return isTold(account) ? toldOf(account) - balanceOf(account, PERIODS - 1) : 0;
        }

        /** What accounts of a kind are debited less credited. */
        int netOfKind(int kind, int from, int to) {
            int sum = 0;
            for (int n = 0; n < journals; n++) {
                Journal journal = counting(n, from, to);
                if (journal == null) {
                    continue;
                }
                for (int k = 0; k < journal.lines(); k++) {
                    sum += kindOf(journal.accountOf(k)) == kind ? journal.amountOf(k) : 0;
                }
            }
            return sum;
        }

        /** The class of a piece of cash, DEAL or NOTHING. */
        int sortOf(Journal journal, int piece) {
            int credited = kindOf(journal.creditedOf(piece));
            int debited = kindOf(journal.debitedOf(piece));
            if (credited != CASH && debited != CASH) {
                return DEAL;
            }
            if (credited == debited) {
                return NOTHING;
            }
            return classOf(credited == CASH ? debited : credited);
        }

        int cashMoved(int sort, boolean cameIn, int from, int to) {
            int sum = 0;
            for (int n = 0; n < journals; n++) {
                Journal journal = counting(n, from, to);
                if (journal == null) {
                    continue;
                }
                for (int k = 0; k < journal.pieces(); k++) {
                    boolean in = kindOf(journal.debitedOf(k)) == CASH;
                    sum += in == cameIn && sortOf(journal, k) == sort ? journal.movedOf(k) : 0;
                }
            }
            return sum;
        }

        /** The journals, as bits, with a piece of cash of a class. */
        int makersOf(int sort, int from, int to) {
            int bits = 0;
            for (int n = 0; n < journals; n++) {
                Journal journal = counting(n, from, to);
                if (journal == null) {
                    continue;
                }
                for (int k = 0; k < journal.pieces(); k++) {
                    bits |= sortOf(journal, k) == sort ? 1 << n : 0;
                }
            }
            return bits;
        }

        int dealt(int kind, int other, int from, int to) {
            int sum = 0;
            for (int n = 0; n < journals; n++) {
                Journal journal = counting(n, from, to);
                if (journal == null) {
                    continue;
                }
                for (int k = 0; k < journal.pieces(); k++) {
                    int credited = kindOf(journal.creditedOf(k));
                    int debited = kindOf(journal.debitedOf(k));
                    boolean between = Math.min(credited, debited) == kind && Math.max(credited, debited) == other;
                    sum += between ? journal.movedOf(k) : 0;
                }
            }
            return sum;
        }

        /** What operating accounts are debited less credited in deals with others. */
        int setApart(int from, int to) {
            int sum = 0;
            for (int n = 0; n < journals; n++) {
                Journal journal = counting(n, from, to);
                if (journal == null) {
                    continue;
                }
                for (int k = 0; k < journal.pieces(); k++) {
                    sum += apartBy(journal, k);
                }
            }
            return sum;
        }

        private int apartBy(Journal journal, int piece) {
            if (sortOf(journal, piece) != DEAL) {
                return 0;
            }
            boolean credits = classOf(kindOf(journal.creditedOf(piece))) == OPERATING;
            boolean debits = classOf(kindOf(journal.debitedOf(piece))) == OPERATING;
            if (credits == debits) {
                return 0;
            }
            return debits ? journal.movedOf(piece) : -journal.movedOf(piece);
        }

        private static int classOf(int kind) {
            return kind == WORK || kind == INCOME ? OPERATING : kind - INCOME;
        }
    }

    /** Finds the fewest journals without which no balance told would be wrong. */
    private static final class Tracer {
        /** Stands in place of a journal where fewer than three are looked at. */
        private static final int NOBODY = MOST_JOURNALS;

        private final int[] numbers = new int[MOST_JOURNALS];
        /** By journal that counts and by account told: what the account would lose; of NOBODY always 0. */
        private final int[][] shares = new int[MOST_JOURNALS + 1][MOST_ACCOUNTS];
        /** By account told: what it has too much. */
        private final int[] excess = new int[MOST_ACCOUNTS];
        private int journals = 0;
        private int accounts = 0;

        int trace(Book book) {
            gatherJournals(book);
            gatherAccounts(book);
            if (explain(NOBODY, NOBODY, NOBODY)) {
                return 0;
            }
            int bits = searchOne();
            bits = bits == NONE ? searchTwo() : bits;
            return bits == NONE ? searchThree() : bits;
        }

        private void gatherJournals(Book book) {
            journals = 0;
            for (int n = 0; n < MOST_JOURNALS; n++) {
                if (book.counting(n, 0, PERIODS - 1) != null) {
                    numbers[journals] = n;
                    journals++;
                }
            }
        }

        private void gatherAccounts(Book book) {
            accounts = 0;
            for (int account = 0; account < MOST_ACCOUNTS; account++) {
                if (book.isTold(account)) {
                    excess[accounts] = -book.residualOf(account);
                    gatherShares(book, account);
                    accounts++;
                }
            }
        }

        private void gatherShares(Book book, int account) {
            for (int n = 0; n < journals; n++) {
                Journal journal = book.find(numbers[n]);
                shares[n][accounts] = journal == null ? 0 : journal.netOf(account);
            }
        }

        // The searches take the highest journal outermost: so the least bits are met first.

        private int searchOne() {
            for (int high = 0; high < journals; high++) {
                if (explain(high, NOBODY, NOBODY)) {
                    return bitOf(high);
                }
            }
            return NONE;
        }

        private int searchTwo() {
            for (int high = 1; high < journals; high++) {
                for (int low = 0; low < high; low++) {
                    if (explain(high, low, NOBODY)) {
                        return bitOf(high) | bitOf(low);
                    }
                }
            }
            return NONE;
        }

        private int searchThree() {
            for (int high = 2; high < journals; high++) {
                for (int middle = 1; middle < high; middle++) {
                    for (int low = 0; low < middle; low++) {
                        if (explain(high, middle, low)) {
                            return bitOf(high) | bitOf(middle) | bitOf(low);
                        }
                    }
                }
            }
            return NONE;
        }

        private boolean explain(int high, int middle, int low) {
            for (int a = 0; a < accounts; a++) {
                if (shares[high][a] + shares[middle][a] + shares[low][a] != excess[a]) {
                    return false;
                }
            }
            return true;
        }

        private int bitOf(int n) {
            return 1 << numbers[n];
        }
    }

    /** The latest acts, each with what undoes it. */
    private static final class Acts {
        private static final int MOST_ACTS = 10;

        private final int[] sorts = new int[MOST_ACTS];
        private final int[] targets = new int[MOST_ACTS];
        private final int[] befores = new int[MOST_ACTS];
        private int size = 0;

        int size() {
            return size;
        }

        void clear() {
            size = 0;
        }

        void keep(int sort, int target, int before) {
            if (size >= MOST_ACTS) {
                dropOldest();
            }
            sorts[size] = sort;
            targets[size] = target;
            befores[size] = before;
            size++;
        }

        int latestSort() {
            return size > 0 ? sorts[size - 1] : NONE;
        }

        int latestTarget() {
            return size > 0 ? targets[size - 1] : NONE;
        }

        int latestBefore() {
            return size > 0 ? befores[size - 1] : NONE;
        }

        void dropLatest() {
            size = Math.max(size - 1, 0);
        }

        private void dropOldest() {
            for (int k = 1; k < MOST_ACTS; k++) {
                sorts[k - 1] = sorts[k];
                targets[k - 1] = targets[k];
                befores[k - 1] = befores[k];
            }
            size = MOST_ACTS - 1;
        }
    }
}
