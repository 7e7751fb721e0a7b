/** The boundary cases of promises 1 to 4: a new object, customer, wish, quiet. */
public final class BoundaryCustomersTest {
    private static final Check check = new Check();
    private static final int[] EXTREMES = {Integer.MIN_VALUE, Integer.MIN_VALUE + 1, -1000000, 1000000, Integer.MAX_VALUE};

    public static void main(String[] args) {
        noCustomers();
        customerWithoutWishes();
        customerOutsideByLanguage();
        customerOutsideByZone();
        customerRoom();
        wishCounts();
        wishAnotherOrder();
        wishUnknown();
        wishOutside();
        quietMinutes();
        otherQuietHours();
        quietUnknown();
        quietOutside();
        check.end();
    }

    private static void noCustomers() {
        check.says("`CustomerNotices()`: No customers.");
        for (int customer : new int[] {Integer.MIN_VALUE, -1, 0, 1, 40, Integer.MAX_VALUE}) {
            CustomerNotices x = new CustomerNotices();
            check.due("wish of " + customer, x.wish(customer, 0, 0, 0), Check.UNKNOWN);
            check.due("quiet of " + customer, x.quiet(customer, 0, 0), Check.UNKNOWN);
            check.due("event of " + customer, x.event(customer, 1, 0, 0), Check.UNKNOWN);
            check.due("promise of " + customer, x.promise(customer, 1, 0, 0), Check.UNKNOWN);
            check.due("out of " + customer, x.out(customer, 0), Check.UNKNOWN);
        }
        CustomerNotices empty = new CustomerNotices();
        check.due("none to correct", empty.correct(1, 0), Check.UNKNOWN);
        check.due("none sent", empty.sent(0, 0), -1);
        check.due("none failed", empty.failed(0), -1);
        check.due("none to send", empty.tick(0), 0);
        check.due("the first customer", empty.customer(0, 0), 1);
    }

    private static void customerWithoutWishes() {
        check.says("A customer more, without wishes: which one.");
        CustomerNotices x = new CustomerNotices();
        check.due("the first", x.customer(0, 0), 1);
        for (int kind = 0; kind <= 7; kind++) {
            check.due("wishes of the first", x.wish(1, kind, 0, 0), 1);
        }
        check.due("the second", x.customer(0, 0), 2);
        for (int kind = 0; kind <= 7; kind++) {
            check.due("none of kind " + kind, x.event(2, 1 + kind, kind, 0), 0);
        }
        check.due("no promise", x.promise(2, 20, 0, 0), 0);
    }

    private static void customerOutsideByLanguage() {
        check.says("OUTSIDE (language,");
        CustomerNotices x = new CustomerNotices();
        check.due("-1", x.customer(-1, 0), Check.OUTSIDE);
        check.due("10", x.customer(10, 0), Check.OUTSIDE);
        for (int extreme : EXTREMES) {
            check.due("" + extreme, x.customer(extreme, 0), Check.OUTSIDE);
        }
        for (int language = 0; language <= 9; language++) {
            check.due("" + language, x.customer(language, 0), 1 + language);
        }
    }

    private static void customerOutsideByZone() {
        check.says("OUTSIDE (.. zone)");
        CustomerNotices x = new CustomerNotices();
        check.due("-13", x.customer(0, -13), Check.OUTSIDE);
        check.due("15", x.customer(0, 15), Check.OUTSIDE);
        for (int extreme : EXTREMES) {
            check.due("" + extreme, x.customer(0, extreme), Check.OUTSIDE);
        }
        for (int zone = -12; zone <= 14; zone++) {
            check.due("" + zone, x.customer(0, zone), 13 + zone);
        }
    }

    private static void customerRoom() {
        check.says("ROOM.");
        CustomerNotices x = new CustomerNotices();
        for (int n = 1; n <= 40; n++) {
            check.due("the " + n + "th", x.customer(0, 0), n);
        }
        check.due("the 41st", x.customer(0, 0), Check.ROOM);
        check.due("the 41st, again", x.customer(9, 14), Check.ROOM);
        check.due("the 40th is there", x.wish(40, 0, 0, 0), 1);
        check.due("the 41st is not", x.wish(41, 0, 0, 0), Check.UNKNOWN);
    }

    private static void wishCounts() {
        check.says("how many channels are, for this kind.");
        for (int kind = 0; kind <= 7; kind++) {
            CustomerNotices x = new CustomerNotices();
            x.customer(0, 0);
            for (int channel = 3; channel >= 0; channel--) {
                check.due("one more", x.wish(1, kind, channel, 9 - channel), 4 - channel);
            }
            check.due("all there can be", x.wish(1, kind, 0, 0), 4);
            check.due("another kind", x.wish(1, (kind + 1) % 8, 0, 0), 1);
        }
    }

    private static void wishAnotherOrder() {
        check.says("with an order (another one, if it was)");
        CustomerNotices x = new CustomerNotices();
        x.customer(0, 0);
        x.wish(1, 0, 2, 5);
        x.wish(1, 0, 3, 6);
        check.due("another order", x.wish(1, 0, 2, 7), 2);
        x.event(1, 1, 0, 0);
        x.tick(0);
        check.due("now the other goes first", x.sent(0, 4), 3);
        check.due("the least", x.wish(1, 0, 2, 0), 2);
        x.event(1, 1, 0, 0);
        x.tick(0);
        check.due("first again", x.sent(1, 4), 2);
    }

    private static void wishUnknown() {
        check.says("UNKNOWN (there is no such customer");
        CustomerNotices x = Check.withWishes();
        check.due("0", x.wish(0, 0, 0, 0), Check.UNKNOWN);
        check.due("2", x.wish(2, 0, 0, 0), Check.UNKNOWN);
        for (int extreme : EXTREMES) {
            check.due("" + extreme, x.wish(extreme, 0, 0, 0), Check.UNKNOWN);
        }
        check.due("1", x.wish(1, 0, 0, 0), 1);
    }

    private static void wishOutside() {
        check.says("OUTSIDE (kind, channel, order).");
        CustomerNotices x = Check.withWishes();
        check.due("kind -1", x.wish(1, -1, 0, 0), Check.OUTSIDE);
        check.due("kind 8", x.wish(1, 8, 0, 0), Check.OUTSIDE);
        check.due("channel -1", x.wish(1, 0, -1, 0), Check.OUTSIDE);
        check.due("channel 4", x.wish(1, 0, 4, 0), Check.OUTSIDE);
        check.due("order -1", x.wish(1, 0, 0, -1), Check.OUTSIDE);
        check.due("order 10", x.wish(1, 0, 0, 10), Check.OUTSIDE);
        for (int extreme : EXTREMES) {
            check.due("kind " + extreme, x.wish(1, extreme, 0, 0), Check.OUTSIDE);
            check.due("channel " + extreme, x.wish(1, 0, extreme, 0), Check.OUTSIDE);
            check.due("order " + extreme, x.wish(1, 0, 0, extreme), Check.OUTSIDE);
        }
        check.due("the least", x.wish(1, 0, 0, 0), 1);
        check.due("the most", x.wish(1, 7, 3, 9), 1);
    }

    private static void quietMinutes() {
        check.says("Other QUIET hours: for how many minutes a day.");
        CustomerNotices x = Check.withWishes();
        check.due("0 to 0", x.quiet(1, 0, 0), 0);
        check.due("1439 to 1439", x.quiet(1, 1439, 1439), 0);
        check.due("0 to 1", x.quiet(1, 0, 1), 1);
        check.due("1438 to 1439", x.quiet(1, 1438, 1439), 1);
        check.due("1439 to 0", x.quiet(1, 1439, 0), 1);
        check.due("0 to 1439", x.quiet(1, 0, 1439), 1439);
        check.due("1 to 0", x.quiet(1, 1, 0), 1439);
        check.due("1439 to 1438", x.quiet(1, 1439, 1438), 1439);
        check.due("1320 to 420", x.quiet(1, 1320, 420), 540);
        check.due("420 to 1320", x.quiet(1, 420, 1320), 900);
    }

    private static void otherQuietHours() {
        check.says("Other QUIET hours");
        CustomerNotices x = Check.withWishes(0);
        x.customer(0, 0);
        x.wish(2, 0, 0, 0);
        x.quiet(1, 0, 100);
        x.event(1, 1, 0, 0);
        x.event(2, 1, 0, 0);
        check.due("of the one customer alone", x.tick(0), 1);
        x.quiet(1, 50, 100);
        check.due("the old ones are gone", x.tick(1), 1);
    }

    private static void quietUnknown() {
        check.says("UNKNOWN, OUTSIDE (0 .. 1439).");
        CustomerNotices x = Check.withWishes();
        check.due("customer 0", x.quiet(0, 0, 0), Check.UNKNOWN);
        check.due("customer 2", x.quiet(2, 0, 0), Check.UNKNOWN);
        for (int extreme : EXTREMES) {
            check.due("customer " + extreme, x.quiet(extreme, 0, 0), Check.UNKNOWN);
        }
    }

    private static void quietOutside() {
        check.says("OUTSIDE (0 .. 1439).");
        CustomerNotices x = Check.withWishes();
        check.due("from -1", x.quiet(1, -1, 0), Check.OUTSIDE);
        check.due("from 1440", x.quiet(1, 1440, 0), Check.OUTSIDE);
        check.due("until -1", x.quiet(1, 0, -1), Check.OUTSIDE);
        check.due("until 1440", x.quiet(1, 0, 1440), Check.OUTSIDE);
        check.due("both 1440", x.quiet(1, 1440, 1440), Check.OUTSIDE);
        for (int extreme : EXTREMES) {
            check.due("from " + extreme, x.quiet(1, extreme, 0), Check.OUTSIDE);
            check.due("until " + extreme, x.quiet(1, 0, extreme), Check.OUTSIDE);
            check.due("both " + extreme, x.quiet(1, extreme, extreme), Check.OUTSIDE);
        }
    }
}
