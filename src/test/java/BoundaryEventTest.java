/** The boundary cases of promise 5: event. */
public final class BoundaryEventTest {
    private static final Check check = new Check();
    private static final long LAST_TIME = 1000000000L;
    private static final int[] EXTREMES = {Integer.MIN_VALUE, Integer.MIN_VALUE + 1, -1000000, 1000000, Integer.MAX_VALUE};

    public static void main(String[] args) {
        noneComesOfIt();
        unknown();
        outsideByItem();
        outsideByKind();
        outsideByTime();
        roomOfNotices();
        roomIsNotNeeded();
        roomForAnEnd();
        roomIsOfThoseThatEndedOrWerePromised();
        roomIsOfAllCustomers();
        roomIsAskedOfEndsAlone();
        roomForItemsThatAreKnown();
        check.end();
    }

    private static void noneComesOfIt() {
        check.says("the number of its notice; 0 if none comes of it.");
        CustomerNotices x = Check.withWishes(0);
        check.due("its number", x.event(1, 1, 0, 0), 1);
        check.due("without wishes", x.event(1, 1, 1, 0), 0);
        check.due("the next number", x.event(1, 1, 0, 0), 2);
        check.due("an end without wishes", x.event(1, 1, 5, 0), 0);
        check.due("the item has ended all the same", x.event(1, 1, 0, 0), 0);
        check.due("another item", x.event(1, 2, 0, 0), 3);
        x.out(1, 0);
        check.due("the wishes are gone", x.event(1, 2, 0, 0), 0);
    }

    private static void unknown() {
        check.says("UNKNOWN (there is no such customer");
        CustomerNotices x = Check.withWishes(0);
        check.due("0", x.event(0, 1, 0, 0), Check.UNKNOWN);
        check.due("2", x.event(2, 1, 0, 0), Check.UNKNOWN);
        for (int extreme : EXTREMES) {
            check.due("" + extreme, x.event(extreme, 1, 0, 0), Check.UNKNOWN);
        }
        check.due("1", x.event(1, 1, 0, 0), 1);
    }

    private static void outsideByItem() {
        check.says("OUTSIDE (item 1 .. 9999;");
        CustomerNotices x = Check.withWishes(0);
        check.due("0", x.event(1, 0, 0, 0), Check.OUTSIDE);
        check.due("10000", x.event(1, 10000, 0, 0), Check.OUTSIDE);
        check.due("0, without wishes", x.event(1, 0, 1, 0), Check.OUTSIDE);
        for (int extreme : EXTREMES) {
            check.due("" + extreme, x.event(1, extreme, 0, 0), Check.OUTSIDE);
        }
        check.due("1", x.event(1, 1, 0, 0), 1);
        check.due("9999", x.event(1, 9999, 0, 0), 2);
        x.tick(0);
        check.due("the least", x.sent(0, 2), 1);
        check.due("the most", x.sent(1, 2), 9999);
    }

    private static void outsideByKind() {
        check.says("kind;");
        CustomerNotices x = Check.withWishes(0, 7);
        check.due("-1", x.event(1, 1, -1, 0), Check.OUTSIDE);
        check.due("8", x.event(1, 1, 8, 0), Check.OUTSIDE);
        for (int extreme : EXTREMES) {
            check.due("" + extreme, x.event(1, 1, extreme, 0), Check.OUTSIDE);
        }
        check.due("0", x.event(1, 1, 0, 0), 1);
        check.due("7", x.event(1, 1, 7, 0), 2);
        x.event(1, 1, 5, 0);
        check.due("8, behind an end", x.event(1, 1, 8, 0), Check.OUTSIDE);
    }

    private static void outsideByTime() {
        check.says("t below the clock, or above 10^9)");
        CustomerNotices x = Check.withWishes(0);
        x.tick(100);
        check.due("99", x.event(1, 1, 0, 99), Check.OUTSIDE);
        check.due("0", x.event(1, 1, 0, 0), Check.OUTSIDE);
        check.due("10^9 and 1", x.event(1, 1, 0, LAST_TIME + 1), Check.OUTSIDE);
        check.due("beyond an int", x.event(1, 1, 0, (1L << 32) + 100), Check.OUTSIDE);
        check.due("least of all", x.event(1, 1, 0, Long.MIN_VALUE), Check.OUTSIDE);
        check.due("most of all", x.event(1, 1, 0, Long.MAX_VALUE), Check.OUTSIDE);
        check.due("99, without wishes", x.event(1, 1, 1, 99), Check.OUTSIDE);
        check.due("99, of an end", x.event(1, 1, 5, 99), Check.OUTSIDE);
        check.due("100", x.event(1, 1, 0, 100), 1);
        check.due("10^9", x.event(1, 1, 0, LAST_TIME), 2);
    }

    private static void roomOfNotices() {
        check.says("ROOM (of notices;");
        CustomerNotices x = Check.withWishes(0, 5);
        Check.fillNotices(x, 199, 0);
        check.due("the 200th", x.event(1, 1, 0, 0), 200);
        check.due("the 201st", x.event(1, 1, 0, 0), Check.ROOM);
        check.due("of an end", x.event(1, 1, 5, 0), Check.ROOM);
        check.due("so the item has not ended", x.event(1, 1, 0, 0), Check.ROOM);
        check.due("dropped ones", x.out(1, 0), 200);
        x.wish(1, 0, 0, 0);
        check.due("make no room", x.event(1, 1, 0, 0), Check.ROOM);
    }

    private static void roomIsNotNeeded() {
        check.says("0 if none comes of it.");
        CustomerNotices x = Check.withWishes(0);
        x.event(1, 1, 5, 0);
        Check.fillNotices(x, 200, 0);
        check.due("behind an end, when notices are full", x.event(1, 1, 0, 0), 0);
        check.due("without wishes, when notices are full", x.event(1, 2, 1, 0), 0);
        check.due("an end without wishes, when notices are full", x.event(1, 2, 6, 0), 0);
        check.due("has ended", x.event(1, 2, 0, 0), 0);
        check.due("has not ended", x.event(1, 3, 0, 0), Check.ROOM);
    }

    private static void roomForAnEnd() {
        check.says("or an end for the 61st item of customers that ended or was promised).");
        for (int end = 5; end <= 6; end++) {
            CustomerNotices x = Check.withWishes(0, end);
            for (int item = 1; item <= 60; item++) {
                check.due("the " + item + "th", x.event(1, item, end, 0), item);
            }
            check.due("the 61st", x.event(1, 61, end, 0), Check.ROOM);
            check.due("the 61st, by an end without wishes", x.event(1, 61, 11 - end, 0), Check.ROOM);
            check.due("so it has not ended", x.event(1, 61, 0, 0), 61);
            check.due("the 60th has", x.event(1, 60, 0, 0), 0);
            check.due("the first has", x.event(1, 1, 0, 0), 0);
        }
    }

    private static void roomIsOfThoseThatEndedOrWerePromised() {
        check.says("that ended or was promised).");
        CustomerNotices x = Check.withWishes(0, 3);
        for (int item = 1; item <= 59; item++) {
            check.due("promised", x.promise(1, item, 0, 0), item);
        }
        check.due("ended", x.event(1, 60, 5, 0), 0);
        check.due("the 61st", x.event(1, 61, 5, 0), Check.ROOM);
        check.due("so it has not ended", x.event(1, 61, 0, 0), 60);
    }

    private static void roomIsOfAllCustomers() {
        check.says("the 61st item of customers");
        CustomerNotices x = new CustomerNotices();
        for (int n = 1; n <= 40; n++) {
            x.customer(0, 0);
        }
        for (int n = 1; n <= 60; n++) {
            check.due("the " + n + "th", x.event(1 + n % 40, 1 + n / 40, 6, 0), 0);
        }
        check.due("the 61st, an item that others have", x.event(30, 2, 6, 0), Check.ROOM);
        check.due("the 61st, an item of its own", x.event(40, 9999, 6, 0), Check.ROOM);
    }

    private static void roomIsAskedOfEndsAlone() {
        check.says("an end for the 61st item");
        CustomerNotices x = Check.withWishes(0, 1, 2, 3, 4, 7);
        for (int item = 1; item <= 60; item++) {
            x.event(1, item, 6, 0);
        }
        int[] others = {0, 1, 2, 3, 4, 7};
        for (int n = 0; n < others.length; n++) {
            check.due("kind " + others[n], x.event(1, 100, others[n], 0), 1 + n);
        }
    }

    private static void roomForItemsThatAreKnown() {
        check.says("an end for the 61st item of customers that ended or was promised");
        CustomerNotices x = Check.withWishes(3, 5);
        for (int item = 1; item <= 59; item++) {
            x.promise(1, item, 0, 0);
        }
        check.due("an end", x.event(1, 60, 5, 0), 60);
        check.due("an end for one that was promised", x.event(1, 59, 5, 0), 61);
        check.due("it has ended", x.promise(1, 59, 9, 0), 0);
        check.due("the end that waits is corrected", x.correct(60, 0), 0);
        check.due("it ends again", x.event(1, 60, 5, 0), 62);
        check.due("a promise for one that did not end", x.promise(1, 58, 9, 0), 58);
        check.due("the 61st", x.event(1, 61, 5, 0), Check.ROOM);
    }
}
