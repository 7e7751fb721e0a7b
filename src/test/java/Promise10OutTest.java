/** Promise 10: out. */
public final class Promise10OutTest {
    public static void main(String[] args) {
        Check check = new Check();
        CustomerNotices x = Check.withWishes(0, 1, 5);
        x.wish(1, 0, 2, 0);
        x.customer(0, 0);
        x.wish(2, 0, 0, 0);
        check.due("nobody", x.out(3, 0), Check.UNKNOWN);
        check.due("customer 0", x.out(0, 0), Check.UNKNOWN);
        check.due("unknown before outside", x.out(3, 8), Check.UNKNOWN);
        check.due("kind -1", x.out(1, -1), Check.OUTSIDE);
        check.due("kind 8", x.out(1, 8), Check.OUTSIDE);
        check.due("nothing waits", x.out(1, 2), 0);
        x.event(1, 1, 0, 0);
        check.due("sent", x.tick(0), 1);
        x.works(1, false);
        x.works(2, false);
        x.event(1, 1, 0, 0);
        check.due("failed", x.tick(0), 0);
        x.works(1, true);
        x.event(1, 1, 0, 0);
        x.event(1, 2, 0, 100);
        x.event(1, 1, 1, 0);
        x.event(2, 1, 0, 0);
        check.due("a correction waits, too", x.correct(1, 5), 7);
        check.due("all that wait", x.out(1, 0), 3);
        check.due("once", x.out(1, 0), 0);
        check.due("wishes are gone", x.event(1, 1, 0, 0), 0);
        check.due("another kind, another customer", x.tick(200), 2);
        check.due("kind 1", x.sent(1, 0), 5);
        check.due("customer 2", x.sent(2, 0), 6);
        check.due("dropped ones have not failed", x.failed(1), -1);
        check.due("all wishes are gone", x.wish(1, 0, 3, 0), 1);
        check.due("dropped ones do not come back", x.tick(200), 0);
        x.event(1, 3, 5, 200);
        check.due("an end is dropped", x.out(1, 5), 1);
        check.due("the item has ended all the same", x.event(1, 3, 0, 200), 0);

        CustomerNotices y = new CustomerNotices();
        y.customer(0, 0);
        y.wish(1, 7, 0, 0);
        y.wish(1, 7, 3, 0);
        y.event(1, 1, 7, 0);
        check.due("the first notice of all", y.out(1, 7), 1);
        check.due("the wishes for the safe and the last channel are gone", y.event(1, 1, 7, 0), 0);
        check.end();
    }
}
