/** The boundary cases that stand under "Terms", but for TICK and REFUSALS, which have files of their own. */
public final class BoundaryTermsTest {
    private static final Check check = new Check();
    private static final long LAST_TIME = 1000000000L;

    public static void main(String[] args) {
        times();
        clockAtFirst();
        customers();
        localMinutes();
        quietFromAndUntil();
        quietOverMidnight();
        quietIfBothAreOne();
        quietAtFirst();
        kindsAreEight();
        kindsThatAreEnds();
        channels();
        ordersOfTwo();
        oneOrder();
        noticesAreNumberedFromOne();
        noticesAreTwoHundred();
        noticesNeedWishes();
        noticesWaitUntil();
        endsAreToldToEvent();
        nothingComesBehindAnEnd();
        correctionsComeBehindAnEnd();
        texts();
        check.end();
    }

    private static void times() {
        check.says("TIMES are minutes, 0 .. 10^9");
        CustomerNotices x = Check.withWishes(0, 3);
        check.due("an event at -1", x.event(1, 1, 0, -1), Check.OUTSIDE);
        check.due("an event at 0", x.event(1, 1, 0, 0), 1);
        check.due("an event at 10^9", x.event(1, 1, 0, LAST_TIME), 2);
        check.due("an event behind 10^9", x.event(1, 1, 0, LAST_TIME + 1), Check.OUTSIDE);
        check.due("-1 is promised", x.promise(1, 1, -1, 0), Check.OUTSIDE);
        check.due("0 is promised", x.promise(1, 1, 0, 0), 3);
        check.due("10^9 is promised", x.promise(1, 2, LAST_TIME, 0), 4);
        check.due("more than 10^9 is promised", x.promise(1, 2, LAST_TIME + 1, 0), Check.OUTSIDE);
        check.due("tick to 0", x.tick(0), 3);
        check.due("sent at 0", x.sent(0, 7), 0);
        check.due("0 was promised", x.sent(1, 8), 0);
        check.due("10^9 was promised", x.sent(2, 8), LAST_TIME);
        check.due("tick behind 10^9", x.tick(LAST_TIME + 1), Check.OUTSIDE);
        check.due("tick to 10^9", x.tick(LAST_TIME), 1);
        check.due("sent at 10^9", x.sent(3, 7), LAST_TIME);
        check.due("corrected behind 10^9", x.correct(1, LAST_TIME + 1), Check.OUTSIDE);
        check.due("corrected at 10^9", x.correct(1, LAST_TIME), 5);
        check.due("the correction is sent", x.tick(LAST_TIME), 1);
    }

    private static void clockAtFirst() {
        check.says("the CLOCK is 0 at first");
        CustomerNotices x = Check.withWishes(0);
        check.due("an event before it", x.event(1, 1, 0, -1), Check.OUTSIDE);
        check.due("an event at it", x.event(1, 1, 0, 0), 1);
        check.due("a tick before it", x.tick(-1), Check.OUTSIDE);
        check.due("a tick to it", x.tick(0), 1);
    }

    private static void customers() {
        check.says("CUSTOMERS are 1, 2, .. (40 at most)");
        CustomerNotices x = new CustomerNotices();
        for (int n = 1; n <= 40; n++) {
            check.due("not there yet", x.wish(n, 0, 0, 0), Check.UNKNOWN);
            check.due("customer", x.customer(0, 0), n);
            check.due("is there", x.wish(n, 0, 0, 0), 1);
        }
        check.due("the 41st", x.customer(0, 0), Check.ROOM);
        check.due("customer 41", x.wish(41, 0, 0, 0), Check.UNKNOWN);
        check.due("customer 0", x.wish(0, 0, 0, 0), Check.UNKNOWN);
    }

    /** How many are sent at this time to one in this zone with these quiet hours. */
    private static int sentAt(int zone, int from, int until, long t) {
        CustomerNotices x = new CustomerNotices();
        x.customer(0, zone);
        x.wish(1, 0, 0, 0);
        x.quiet(1, from, until);
        x.event(1, 1, 0, 0);
        return x.tick(t);
    }

    private static void localMinutes() {
        check.says("the LOCAL minute of a time is the time and 60 times the zone, modulo 1440 (0 or more)");
        check.due("zone -12, below 0: 720", sentAt(-12, 720, 721, 0), 0);
        check.due("zone -12, the last below 0: 1439", sentAt(-12, 1439, 0, 719), 0);
        check.due("zone -12, 0", sentAt(-12, 0, 1, 720), 0);
        check.due("zone -1, -60: 1380", sentAt(-1, 1380, 1381, 0), 0);
        check.due("zone 14, 1439", sentAt(14, 1439, 0, 599), 0);
        check.due("zone 14, 1440: 0", sentAt(14, 0, 1, 600), 0);
        for (int zone = -12; zone <= 14; zone++) {
            for (long t : new long[] {0, 719, 720, 1439, 1440, 123456789, LAST_TIME}) {
                int local = (int) ((t + 60 * zone + 1440) % 1440);
                String where = "zone " + zone + " at " + t;
                check.due(where + ", quiet in that minute", sentAt(zone, local, (local + 1) % 1440, t), 0);
                check.due(where + ", quiet but in that minute", sentAt(zone, (local + 1) % 1440, local, t), 1);
            }
        }
    }

    private static void quietFromAndUntil() {
        check.says("QUIET hours are local minutes, from one on and up to, but not with, another one");
        check.due("before the first", sentAt(0, 100, 200, 99), 1);
        check.due("the first", sentAt(0, 100, 200, 100), 0);
        check.due("the last", sentAt(0, 100, 200, 199), 0);
        check.due("the other one", sentAt(0, 100, 200, 200), 1);
        check.due("from 0", sentAt(0, 0, 1439, 0), 0);
        check.due("up to 1439", sentAt(0, 0, 1439, 1438), 0);
        check.due("but not with 1439", sentAt(0, 0, 1439, 1439), 1);
        check.due("and from 0 again", sentAt(0, 0, 1439, 1440), 0);
    }

    private static void quietOverMidnight() {
        check.says("(over midnight, if that is the lesser one;");
        check.due("before the first", sentAt(0, 1320, 420, 1319), 1);
        check.due("the first", sentAt(0, 1320, 420, 1320), 0);
        check.due("before midnight", sentAt(0, 1320, 420, 1439), 0);
        check.due("midnight", sentAt(0, 1320, 420, 1440), 0);
        check.due("the last", sentAt(0, 1320, 420, 419), 0);
        check.due("the other one", sentAt(0, 1320, 420, 420), 1);
        check.due("1439 alone", sentAt(0, 1439, 0, 1439), 0);
        check.due("1439 alone, midnight", sentAt(0, 1439, 0, 1440), 1);
        check.due("all but 0", sentAt(0, 1, 0, 0), 1);
        check.due("all but 0, 1", sentAt(0, 1, 0, 1), 0);
        check.due("all but 0, 1439", sentAt(0, 1, 0, 1439), 0);
        check.due("the lesser by one", sentAt(0, 700, 699, 699), 1);
        check.due("the lesser by one, behind it", sentAt(0, 700, 699, 700), 0);
    }

    private static void quietIfBothAreOne() {
        check.says("none, if both are one,");
        for (int minute : new int[] {0, 1, 700, 1438, 1439}) {
            check.due("at " + minute, sentAt(0, minute, minute, minute), 1);
            check.due("behind " + minute, sentAt(0, minute, minute, minute + 1), 1);
            check.due("before " + minute, sentAt(0, minute, minute, minute + 1439), 1);
        }
    }

    private static void quietAtFirst() {
        check.says("as at first).");
        for (long t : new long[] {0, 1, 700, 1439, 1440}) {
            CustomerNotices x = Check.withWishes(0);
            x.event(1, 1, 0, 0);
            check.due("at " + t, x.tick(t), 1);
        }
    }

    private static void kindsAreEight() {
        check.says("KINDS of events are 0 .. 7");
        CustomerNotices x = Check.withWishes(0, 1, 2, 3, 4, 5, 6, 7);
        for (int kind = 0; kind <= 7; kind++) {
            check.due("kind " + kind, x.event(1, 1 + kind, kind, 0), 1 + kind);
        }
        for (int kind : new int[] {-1, 8, Integer.MIN_VALUE, Integer.MAX_VALUE}) {
            check.due("a wish for kind " + kind, x.wish(1, kind, 0, 0), Check.OUTSIDE);
            check.due("an event of kind " + kind, x.event(1, 1, kind, 0), Check.OUTSIDE);
            check.due("out of kind " + kind, x.out(1, kind), Check.OUTSIDE);
        }
    }

    private static void kindsThatAreEnds() {
        check.says("5 and 6 are ENDS");
        for (int kind = 0; kind <= 7; kind++) {
            CustomerNotices x = Check.withWishes(0, kind);
            x.event(1, 1, kind, 0);
            check.due("behind kind " + kind, x.event(1, 1, 0, 0), kind == 5 || kind == 6 ? 0 : 2);
        }
    }

    private static void channels() {
        check.says("CHANNELS are 0 .. 3, 0 the SAFE one; all work at first.");
        for (int channel = 0; channel <= 3; channel++) {
            CustomerNotices x = new CustomerNotices();
            x.customer(0, 0);
            check.due("wished", x.wish(1, 0, channel, 0), 1);
            x.event(1, 1, 0, 0);
            check.due("works at first", x.tick(0), 1);
            check.due("by this one", x.sent(0, 4), channel);
            x.wish(1, 4, channel, 0);
            x.event(1, 1, 4, 0);
            check.due("a code by channel " + channel, x.tick(0), channel == 0 ? 1 : 0);
            check.due("it did at first", x.works(channel, true), true);
        }
        CustomerNotices x = Check.withWishes();
        check.due("channel -1", x.wish(1, 0, -1, 0), Check.OUTSIDE);
        check.due("channel 4", x.wish(1, 0, 4, 0), Check.OUTSIDE);
    }

    /** Sends by the channels as they stop working, one behind the other: the digits of the answer. */
    private static int oneBehindTheOther(CustomerNotices x) {
        int digits = 0;
        for (int i = 0; i < 4; i++) {
            x.event(1, 1, 0, 0);
            x.tick(0);
            digits = 10 * digits + x.sent(i, 4);
            x.works(x.sent(i, 4), false);
        }
        return digits;
    }

    private static CustomerNotices withOrders(int... orders) {
        CustomerNotices x = new CustomerNotices();
        x.customer(0, 0);
        for (int channel = 0; channel < orders.length; channel++) {
            x.wish(1, 0, channel, orders[channel]);
        }
        return x;
    }

    private static void ordersOfTwo() {
        check.says("each with an ORDER 0 .. 9; of two the lesser order goes first");
        check.due("9, 8, 1, 0", oneBehindTheOther(withOrders(9, 8, 1, 0)), 3210);
        check.due("0, 1, 8, 9", oneBehindTheOther(withOrders(0, 1, 8, 9)), 123);
        check.due("5, 9, 0, 4", oneBehindTheOther(withOrders(5, 9, 0, 4)), 2301);
    }

    private static void oneOrder() {
        check.says("of one order the lesser channel.");
        check.due("0, 0, 0, 0", oneBehindTheOther(withOrders(0, 0, 0, 0)), 123);
        check.due("9, 9, 9, 9", oneBehindTheOther(withOrders(9, 9, 9, 9)), 123);
        check.due("5, 4, 5, 4", oneBehindTheOther(withOrders(5, 4, 5, 4)), 1302);
    }

    private static void noticesAreNumberedFromOne() {
        check.says("A NOTICE, numbered from 1 on");
        CustomerNotices x = Check.withWishes(0);
        x.customer(0, 0);
        x.wish(2, 3, 0, 0);
        check.due("first", x.event(1, 1, 0, 0), 1);
        check.due("of another customer", x.promise(2, 1, 0, 0), 2);
        x.tick(0);
        check.due("a correction", x.correct(1, 0), 3);
        check.due("notice 0", x.correct(0, 0), Check.UNKNOWN);
        check.due("notice 4", x.correct(4, 0), Check.UNKNOWN);
    }

    private static void noticesAreTwoHundred() {
        check.says("(200 at most)");
        CustomerNotices x = Check.withWishes(0, 3);
        Check.fillNotices(x, 199, 0);
        x.tick(0);
        check.due("the 200th", x.correct(1, 0), 200);
        check.due("by an event", x.event(1, 1, 0, 0), Check.ROOM);
        check.due("by a promise", x.promise(1, 1, 0, 0), Check.ROOM);
        check.due("by a correction", x.correct(2, 0), Check.ROOM);
        check.due("the 200th is sent", x.tick(0), 1);
        check.due("one that was sent makes no room", x.event(1, 1, 0, 0), Check.ROOM);
    }

    private static void noticesNeedWishes() {
        check.says("comes of an event whose kind the customer has wishes for");
        for (int kind = 0; kind <= 7; kind++) {
            CustomerNotices x = new CustomerNotices();
            x.customer(0, 0);
            x.customer(0, 0);
            x.wish(1, kind, 3, 9);
            x.wish(2, (kind + 1) % 8, 0, 0);
            check.due("without wishes for kind " + kind, x.event(2, 1, kind, 0), 0);
            check.due("with wishes for kind " + kind, x.event(1, 1, kind, 0), 1);
        }
    }

    private static void noticesWaitUntil() {
        check.says("it WAITS, until it is SENT, FAILED, or DROPPED.");
        CustomerNotices x = Check.withWishes(0, 1, 4);
        x.event(1, 1, 0, 0);
        x.event(1, 1, 4, 0);
        x.event(1, 1, 1, 0);
        check.due("one is dropped", x.out(1, 1), 1);
        check.due("one is sent, one failed", x.tick(0), 1);
        x.wish(1, 1, 0, 0);
        x.wish(1, 4, 0, 0);
        check.due("none waits", x.tick(1), 0);
        check.due("no sent one waits", x.out(1, 0), 0);
        check.due("no dropped one waits", x.out(1, 1), 0);
        check.due("no failed one waits", x.out(1, 4), 0);
        check.due("one failed", x.failed(0), 2);
        check.due("but one", x.failed(1), -1);
    }

    private static void endsAreToldToEvent() {
        check.says("An item has ENDED for a customer behind an end that was told to event()");
        CustomerNotices x = Check.withWishes(0, 5);
        check.due("before the end", x.event(1, 1, 0, 0), 1);
        check.due("the end, with a time to come", x.event(1, 1, 5, 10), 2);
        check.due("behind it, though its time has not come", x.event(1, 1, 0, 0), 0);
        check.due("what came before it is sent", x.tick(0), 1);
        check.due("the end is sent", x.tick(10), 1);
        check.due("its correction", x.correct(2, 10), 3);
        check.due("is sent", x.tick(10), 1);
        check.due("and is no end that was told", x.event(1, 1, 0, 10), 4);
    }

    private static void nothingComesBehindAnEnd() {
        check.says("nothing comes of events and promises for it any more");
        CustomerNotices x = Check.withWishes(0, 1, 2, 3, 4, 5, 6, 7);
        x.customer(0, 0);
        x.wish(2, 0, 0, 0);
        check.due("the end", x.event(1, 1, 5, LAST_TIME), 1);
        for (int kind = 0; kind <= 7; kind++) {
            check.due("an event of kind " + kind, x.event(1, 1, kind, 0), 0);
        }
        check.due("a promise", x.promise(1, 1, 0, 0), 0);
        check.due("another item", x.event(1, 2, 0, 0), 2);
        check.due("for another customer", x.event(2, 1, 0, 0), 3);
    }

    private static void correctionsComeBehindAnEnd() {
        check.says("(corrections do).");
        CustomerNotices x = Check.withWishes(0, 6);
        x.event(1, 1, 0, 0);
        x.event(1, 1, 6, 0);
        x.tick(0);
        check.due("a correction", x.correct(1, 0), 3);
        check.due("it is sent", x.tick(0), 1);
        check.due("the item has ended", x.event(1, 1, 0, 0), 0);
    }

    private static void texts() {
        check.says("The TEXT of a notice is 32 times the customer's language, and twice its kind, and 1 for a correction.");
        CustomerNotices x = new CustomerNotices();
        for (int n = 0; n < 80; n++) {
            int customer = n % 8 == 0 ? x.customer(n / 8, 0) : n / 8 + 1;
            x.wish(customer, n % 8, 0, 0);
            x.event(customer, 1 + n, n % 8, 0);
        }
        x.tick(0);
        for (int n = 0; n < 80; n++) {
            check.due("the text of notice " + (n + 1), x.sent(n, 5), 32 * (n / 8) + 2 * (n % 8));
            x.correct(n + 1, 0);
        }
        x.tick(0);
        for (int n = 0; n < 80; n++) {
            check.due("the text of its correction", x.sent(80 + n, 5), 32 * (n / 8) + 2 * (n % 8) + 1);
        }
        check.due("the greatest", x.sent(159, 5), 303);
    }
}
