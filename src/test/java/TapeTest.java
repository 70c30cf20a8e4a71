/** Promises 1 to 3: a new object, feed(), end(). */
final class TapeTest {
    public static void main(String[] args) {
        checkNewObject();
        checkFeedFills();
        checkFeedOrder();
        checkEnd();
        Checks.finish();
    }

    private static void checkNewObject() {
        CashDeriver x = new CashDeriver();
        for (int what = 0; what <= 5; what++) {
            Checks.due("new: now(" + what + ")", x.now(what), 0);
        }
        Checks.due("new: fault()", x.fault(), 0);
        Checks.due("new: undo()", x.undo(), -1);
        Checks.due("new: traced()", x.traced(), 0);
        Checks.due("new: change(0, 19)", x.change(0, 19), 0);
        Checks.due("new: strike(0)", x.strike(0), -1);
        Checks.dueNoSuchElement("new: account(0, 0)", () -> x.account(0, 0));
        Checks.dueNoSuchElement("new: journal(0, 0)", () -> x.journal(0, 0));
        Checks.due("new: text()", x.text(), 0);
    }

    private static void checkFeedFills() {
        CashDeriver x = new CashDeriver();
        for (int n = 1; n <= 32; n++) {
            Checks.due("feed " + n, x.feed(n, n, n, n, n), 20 * n);
        }
        Checks.due("feed beyond 640", x.feed(1, 2, 3, 4, 5), -1);
        Checks.due("now(5) when full", x.now(5), 640);
        x.end(621);
        Checks.due("feed to 641", x.feed(1, 2, 3, 4, 5), -1);
        Checks.due("now(5) behind a feed refused", x.now(5), 621);
        x.end(620);
        Checks.due("feed to 640", x.feed(1, 2, 3, 4, 5), 640);
    }

    private static void checkFeedOrder() {
        CashDeriver x = new CashDeriver();
        // 'acco' 'unt ' 'cash' ' -12' '34; '
        x.feed(0x6163636f, 0x756e7420, 0x63617368, 0x202d3132, 0x33343b20);
        Checks.due("text() of bytes, the highest first", x.text(), 1);
        Checks.due("account(0, 1)", x.account(0, 1), -1234);
        // bytes above 127 are bytes too, and no blanks
        x.feed(0xffffffff, 0x80808080, -1, Integer.MIN_VALUE, Integer.MAX_VALUE);
        Checks.due("text() of bytes above 127", x.text(), -1);
        x.feed(0x2020200a, 0x200a2020, 0x20202020, 0x202020a0, 0x20202020);
        Checks.due("text() of blanks and byte 160", x.text(), -1 - 15);
    }

    private static void checkEnd() {
        CashDeriver x = new CashDeriver();
        Checks.due("end(0) when empty", x.end(0), true);
        Checks.due("end(1) when empty", x.end(1), false);
        x.feed(0, 0, 0, 0, 0);
        Checks.due("end(21)", x.end(21), false);
        Checks.due("end(-1)", x.end(-1), false);
        Checks.due("end(MIN)", x.end(Integer.MIN_VALUE), false);
        Checks.due("end(MAX)", x.end(Integer.MAX_VALUE), false);
        Checks.due("now(5) behind ends refused", x.now(5), 20);
        Checks.due("end(20)", x.end(20), true);
        Checks.due("now(5)", x.now(5), 20);
        Checks.due("end(3)", x.end(3), true);
        Checks.due("now(5)", x.now(5), 3);
        Checks.due("end(4) behind end(3)", x.end(4), false);
        Checks.due("feed behind end(3)", x.feed(0, 0, 0, 0, 0), 23);
    }
}
