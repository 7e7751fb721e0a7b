/** Promise 3: wish, and the order in which wishes are tried. */
public final class Promise03WishTest {
    private static final Check check = new Check();

    public static void main(String[] args) {
        answers();
        ordersAndTies();
        wishesAreOfOneCustomerAndKind();
        aCodeGoesByTheSafeChannelAlone();
        check.end();
    }

    private static void answers() {
        CustomerNotices x = new CustomerNotices();
        x.customer(0, 0);
        check.due("one channel", x.wish(1, 0, 3, 9), 1);
        check.due("two channels", x.wish(1, 0, 0, 0), 2);
        check.due("again", x.wish(1, 0, 3, 4), 2);
        check.due("another kind", x.wish(1, 7, 3, 4), 1);
        check.due("three channels", x.wish(1, 0, 1, 0), 3);
        check.due("four channels", x.wish(1, 0, 2, 0), 4);
        check.due("nobody", x.wish(2, 0, 0, 0), Check.UNKNOWN);
        check.due("customer -1", x.wish(-1, 0, 0, 0), Check.UNKNOWN);
        check.due("unknown before outside", x.wish(2, 9, 9, 99), Check.UNKNOWN);
        check.due("kind -1", x.wish(1, -1, 0, 0), Check.OUTSIDE);
        check.due("kind 8", x.wish(1, 8, 0, 0), Check.OUTSIDE);
        check.due("channel -1", x.wish(1, 1, -1, 0), Check.OUTSIDE);
        check.due("channel 4", x.wish(1, 1, 4, 0), Check.OUTSIDE);
        check.due("order -1", x.wish(1, 1, 0, -1), Check.OUTSIDE);
        check.due("order 10", x.wish(1, 1, 0, 10), Check.OUTSIDE);
        check.due("refused ones wished nothing", x.event(1, 1, 1, 0), 0);
    }

    private static int channelOfNext(CustomerNotices x, int i, int kind) {
        x.event(1, 1, kind, 0);
        x.tick(0);
        return x.sent(i, 4);
    }

    private static void ordersAndTies() {
        CustomerNotices x = new CustomerNotices();
        x.customer(0, 0);
        x.wish(1, 0, 3, 2);
        x.wish(1, 0, 2, 2);
        x.wish(1, 0, 0, 9);
        check.due("of one order the lesser channel", channelOfNext(x, 0, 0), 2);
        x.wish(1, 0, 3, 1);
        check.due("another order", channelOfNext(x, 1, 0), 3);
        x.works(3, false);
        check.due("the next one behind", channelOfNext(x, 2, 0), 2);
        x.works(2, false);
        check.due("the last one", channelOfNext(x, 3, 0), 0);
        x.wish(1, 0, 1, 9);
        check.due("still the lesser channel", channelOfNext(x, 4, 0), 0);
        x.works(0, false);
        check.due("behind that", channelOfNext(x, 5, 0), 1);
    }

    private static void wishesAreOfOneCustomerAndKind() {
        CustomerNotices x = Check.withWishes(0);
        x.customer(0, 0);
        check.due("another kind", x.event(1, 1, 1, 0), 0);
        check.due("another customer", x.event(2, 1, 0, 0), 0);
        check.due("this one", x.event(1, 1, 0, 0), 1);
    }

    private static void aCodeGoesByTheSafeChannelAlone() {
        CustomerNotices x = Check.withWishes(4);
        check.due("a code, without the safe channel", x.event(1, 1, 4, 0), 1);
        check.due("tick", x.tick(0), 0);
        check.due("fails", x.failed(0), 1);
        x.wish(1, 4, 0, 9);
        check.due("the safe channel, though last in order", channelOfNext(x, 0, 4), 0);
        x.works(0, false);
        check.due("none behind it", channelOfNext(x, 1, 4), -1);
        check.due("fails", x.failed(1), 3);
    }
}
