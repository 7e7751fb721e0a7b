/** Promise 8: sent. */
public final class Promise08SentTest {
    public static void main(String[] args) {
        Check check = new Check();
        CustomerNotices x = new CustomerNotices();
        check.due("what -1, though nothing was sent", x.sent(0, -1), Check.OUTSIDE);
        check.due("what 9, though nothing was sent", x.sent(0, 9), Check.OUTSIDE);
        check.due("none", x.sent(0, 8), -1);
        x.customer(9, 14);
        x.customer(4, 0);
        x.wish(2, 3, 2, 0);
        x.wish(2, 7, 3, 0);
        x.wish(1, 6, 0, 0);
        x.event(2, 9999, 7, 20);
        x.event(1, 12, 6, 10);
        x.promise(2, 8, 777, 0);
        check.due("tick", x.tick(15), 2);
        check.due("tick", x.tick(21), 1);
        check.dueSent(x, 0, 2, 1, 12, 6, 0, 32 * 9 + 12, 2, 15, -1);
        check.dueSent(x, 1, 3, 2, 8, 3, 2, 32 * 4 + 6, 3, 15, 777);
        check.dueSent(x, 2, 1, 2, 9999, 7, 3, 32 * 4 + 14, 1, 21, -1);
        check.due("correction", x.correct(3, 30), 4);
        check.due("tick", x.tick(30), 1);
        check.dueSent(x, 3, 4, 2, 8, 3, 2, 32 * 4 + 7, 4, 30, -1);
        check.due("behind the last", x.sent(4, 0), -1);
        check.due("-1", x.sent(-1, 0), -1);
        check.due("extremes", x.sent(Integer.MAX_VALUE, 0), -1);
        check.due("extremes", x.sent(Integer.MIN_VALUE, 0), -1);
        check.due("what 9", x.sent(0, 9), Check.OUTSIDE);
        check.due("what -1", x.sent(0, -1), Check.OUTSIDE);
        check.due("extremes", x.sent(0, Integer.MIN_VALUE), Check.OUTSIDE);
        check.end();
    }
}
