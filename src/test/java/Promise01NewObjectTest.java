/** Promise 1: a new object has no customers, no notices, the clock at 0, and all channels work. */
public final class Promise01NewObjectTest {
    public static void main(String[] args) {
        Check check = new Check();
        CustomerNotices x = new CustomerNotices();
        check.due("wish for nobody", x.wish(1, 0, 0, 0), Check.UNKNOWN);
        check.due("wish for customer 0", x.wish(0, 0, 0, 0), Check.UNKNOWN);
        check.due("quiet for nobody", x.quiet(1, 0, 1), Check.UNKNOWN);
        check.due("event for nobody", x.event(1, 1, 0, 0), Check.UNKNOWN);
        check.due("promise for nobody", x.promise(1, 1, 0, 0), Check.UNKNOWN);
        check.due("out for nobody", x.out(1, 0), Check.UNKNOWN);
        check.due("correct of nothing", x.correct(1, 0), Check.UNKNOWN);
        check.due("nothing sent", x.sent(0, 0), -1);
        check.due("nothing failed", x.failed(0), -1);
        for (int channel = 0; channel < 4; channel++) {
            check.due("channel " + channel, x.works(channel, true), true);
        }
        check.due("join at first", x.join(0), 0);
        check.due("clock at first", x.tick(-1), Check.OUTSIDE);
        check.due("clock at first", x.tick(0), 0);

        CustomerNotices y = new CustomerNotices();
        check.due("first of one", x.customer(0, 0), 1);
        check.due("first of another", y.customer(0, 0), 1);
        check.end();
    }
}
