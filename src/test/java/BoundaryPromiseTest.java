/** The boundary cases of promise 6: promise. */
public final class BoundaryPromiseTest {
    private static final Check check = new Check();
    private static final long LAST_TIME = 1000000000L;
    private static final long LAST_BOUND = 1000000L;
    private static final int[] EXTREMES = {Integer.MIN_VALUE, Integer.MIN_VALUE + 1, -1000000, 1000000, Integer.MAX_VALUE};

    public static void main(String[] args) {
        theFirstTime();
        withTheClockAsItsTime();
        moreThanBoundAway();
        theLeastAndTheGreatestBound();
        awayFromTheLatest();
        evenIfThatFailed();
        ifThatOneWaits();
        withoutWishes();
        forAnItemThatEnded();
        unknown();
        outsideByItem();
        outsideByWhen();
        outsideByBound();
        roomOfNotices();
        roomOfItems();
        check.end();
    }

    private static void theFirstTime() {
        check.says("comes of it the first time");
        CustomerNotices x = Check.withWishes(3);
        x.customer(0, 0);
        x.wish(2, 3, 0, 0);
        check.due("with the greatest bound", x.promise(1, 1, 0, LAST_BOUND), 1);
        check.due("another item", x.promise(1, 2, 0, LAST_BOUND), 2);
        check.due("another customer", x.promise(2, 1, 0, LAST_BOUND), 3);
        check.due("not the first time", x.promise(1, 1, 0, LAST_BOUND), 0);
        check.due("an event of kind 3", x.event(1, 3, 3, 0), 4);
        check.due("is no promise", x.promise(1, 3, 0, LAST_BOUND), 5);
    }

    private static void withTheClockAsItsTime() {
        check.says("a notice of kind 3, with the clock as its time");
        CustomerNotices x = Check.withWishes(3);
        x.tick(50);
        x.join(10);
        check.due("a time before the clock", x.promise(1, 1, 0, 0), 1);
        check.due("a time far off", x.promise(1, 2, LAST_TIME, 0), 2);
        check.due("before the clock and join", x.tick(59), 0);
        check.due("told anew, while it waits", x.promise(1, 1, 7, 0), 1);
        check.due("at the clock and join", x.tick(60), 2);
        check.due("kind", x.sent(0, 3), 3);
        check.due("the time that it promised", x.sent(0, 8), 7);
        check.due("the time that it promised", x.sent(1, 8), LAST_TIME);
    }

    /** What promise() answers for this time, when 1000 was sent before. */
    private static int behindThousand(long when, long bound) {
        CustomerNotices x = Check.withWishes(3);
        x.promise(1, 1, 1000, 0);
        x.tick(0);
        return x.promise(1, 1, when, bound);
    }

    private static void moreThanBoundAway() {
        check.says("and when it is more than bound away");
        check.due("30 more, 30", behindThousand(1030, 30), 0);
        check.due("31 more, 30", behindThousand(1031, 30), 2);
        check.due("30 less, 30", behindThousand(970, 30), 0);
        check.due("31 less, 30", behindThousand(969, 30), 2);
    }

    private static void theLeastAndTheGreatestBound() {
        check.says("bound 0 .. 10^6");
        check.due("the same, 0", behindThousand(1000, 0), 0);
        check.due("1 more, 0", behindThousand(1001, 0), 2);
        check.due("1 less, 0", behindThousand(999, 0), 2);
        check.due("10^6 more, 10^6", behindThousand(1001000, LAST_BOUND), 0);
        check.due("10^6 and 1 more, 10^6", behindThousand(1001001, LAST_BOUND), 2);
        check.due("down to 0, 1000", behindThousand(0, 1000), 0);
        check.due("down to 0, 999", behindThousand(0, 999), 2);
        check.due("up to 10^9, 10^6", behindThousand(LAST_TIME, LAST_BOUND), 2);
    }

    private static void awayFromTheLatest() {
        check.says("from the one of the latest such notice");
        CustomerNotices x = Check.withWishes(3);
        x.promise(1, 1, 1000, 0);
        x.tick(0);
        check.due("not told", x.promise(1, 1, 1010, 10), 0);
        check.due("so not counted", x.promise(1, 1, 1011, 10), 2);
        x.tick(0);
        check.due("the latest counts", x.promise(1, 1, 1001, 10), 0);
        check.due("the first does not", x.promise(1, 1, 1000, 10), 3);
        x.tick(0);
        check.due("the correction of the latest", x.correct(3, 0), 4);
        check.due("promises nothing", x.promise(1, 1, 1000, 0), 0);
        check.due("and tells no new time", x.promise(1, 1, 1001, 0), 5);
    }

    private static void evenIfThatFailed() {
        check.says("(even if that failed)");
        CustomerNotices x = Check.withWishes(3);
        x.works(1, false);
        x.promise(1, 1, 1000, 0);
        x.tick(0);
        check.due("it failed", x.failed(0), 1);
        check.due("not more than bound away", x.promise(1, 1, 1010, 10), 0);
        check.due("more than bound away", x.promise(1, 1, 1011, 10), 2);
    }

    private static void ifThatOneWaits() {
        check.says("but if that one waits, it tells the new time: its number.");
        CustomerNotices x = Check.withWishes(0, 3);
        x.promise(1, 1, 1000, 0);
        x.event(1, 1, 0, 0);
        check.due("not more than bound away", x.promise(1, 1, 1010, 10), 0);
        check.due("more than bound away", x.promise(1, 1, 1011, 10), 1);
        check.due("from the new time", x.promise(1, 1, 1001, 10), 0);
        check.due("more from the new time", x.promise(1, 1, 1000, 10), 1);
        check.due("as far as can be", x.promise(1, 1, LAST_TIME, LAST_BOUND), 1);
        check.due("both are sent", x.tick(0), 2);
        check.due("the new time", x.sent(0, 8), LAST_TIME);
        check.due("none of another one", x.sent(1, 8), -1);
        check.due("it waits no more", x.promise(1, 1, 0, 0), 3);
        check.due("it tells what it told", x.sent(0, 8), LAST_TIME);
    }

    private static void withoutWishes() {
        check.says("(without wishes, .. nothing is kept, either)");
        CustomerNotices x = Check.withWishes(0);
        for (int item = 1; item <= 61; item++) {
            check.due("without wishes", x.promise(1, item, 1000, 0), 0);
        }
        x.wish(1, 3, 0, 0);
        check.due("the first time", x.promise(1, 1, 1000, LAST_BOUND), 1);
        check.due("the first time, the 62nd item", x.promise(1, 62, 1000, LAST_BOUND), 2);
        x.tick(0);
        x.out(1, 3);
        check.due("without wishes", x.promise(1, 1, 2000, 0), 0);
        x.wish(1, 3, 0, 0);
        check.due("what was told counts", x.promise(1, 1, 1000, 0), 0);
        check.due("what was not told does not", x.promise(1, 1, 2000, 0), 3);
    }

    private static void forAnItemThatEnded() {
        check.says("(.. or for an item that ended, nothing is kept, either)");
        CustomerNotices x = Check.withWishes(3, 6);
        x.promise(1, 1, 1000, 0);
        check.due("the end", x.event(1, 1, 6, 0), 2);
        check.due("for an item that ended", x.promise(1, 1, 2000, 0), 0);
        check.due("both are sent", x.tick(0), 2);
        check.due("the old time", x.sent(0, 8), 1000);
        check.due("the end is corrected", x.correct(2, 0), 3);
        check.due("what was told counts", x.promise(1, 1, 1000, 0), 0);
        check.due("what was not told does not", x.promise(1, 1, 2000, 0), 4);
    }

    private static void unknown() {
        check.says("UNKNOWN (there is no such customer");
        CustomerNotices x = Check.withWishes(3);
        check.due("0", x.promise(0, 1, 0, 0), Check.UNKNOWN);
        check.due("2", x.promise(2, 1, 0, 0), Check.UNKNOWN);
        for (int extreme : EXTREMES) {
            check.due("" + extreme, x.promise(extreme, 1, 0, 0), Check.UNKNOWN);
        }
    }

    private static void outsideByItem() {
        check.says("OUTSIDE (item;");
        CustomerNotices x = Check.withWishes(3);
        check.due("0", x.promise(1, 0, 0, 0), Check.OUTSIDE);
        check.due("10000", x.promise(1, 10000, 0, 0), Check.OUTSIDE);
        for (int extreme : EXTREMES) {
            check.due("" + extreme, x.promise(1, extreme, 0, 0), Check.OUTSIDE);
        }
        check.due("1", x.promise(1, 1, 0, 0), 1);
        check.due("9999", x.promise(1, 9999, 0, 0), 2);
        x.out(1, 3);
        check.due("0, without wishes", x.promise(1, 0, 0, 0), Check.OUTSIDE);
    }

    private static void outsideByWhen() {
        check.says("when 0 .. 10^9");
        CustomerNotices x = Check.withWishes(3);
        x.tick(100);
        check.due("-1", x.promise(1, 1, -1, 0), Check.OUTSIDE);
        check.due("10^9 and 1", x.promise(1, 1, LAST_TIME + 1, 0), Check.OUTSIDE);
        check.due("beyond an int", x.promise(1, 1, 1L << 32, 0), Check.OUTSIDE);
        check.due("least of all", x.promise(1, 1, Long.MIN_VALUE, 0), Check.OUTSIDE);
        check.due("most of all", x.promise(1, 1, Long.MAX_VALUE, 0), Check.OUTSIDE);
        check.due("0, though below the clock", x.promise(1, 1, 0, 0), 1);
        check.due("10^9", x.promise(1, 2, LAST_TIME, 0), 2);
        x.event(1, 1, 5, 100);
        check.due("-1, behind an end", x.promise(1, 1, -1, 0), Check.OUTSIDE);
    }

    private static void outsideByBound() {
        check.says("bound 0 .. 10^6)");
        CustomerNotices x = Check.withWishes(3);
        check.due("-1", x.promise(1, 1, 0, -1), Check.OUTSIDE);
        check.due("10^6 and 1", x.promise(1, 1, 0, LAST_BOUND + 1), Check.OUTSIDE);
        check.due("beyond an int", x.promise(1, 1, 0, 1L << 32), Check.OUTSIDE);
        check.due("least of all", x.promise(1, 1, 0, Long.MIN_VALUE), Check.OUTSIDE);
        check.due("most of all", x.promise(1, 1, 0, Long.MAX_VALUE), Check.OUTSIDE);
        check.due("0", x.promise(1, 1, 0, 0), 1);
        check.due("10^6", x.promise(1, 2, 0, LAST_BOUND), 2);
    }

    private static void roomOfNotices() {
        check.says("ROOM (as with event()).");
        CustomerNotices x = Check.withWishes(0, 3);
        x.promise(1, 1, 1000, 0);
        Check.fillNotices(x, 199, 0);
        check.due("the 200th", x.promise(1, 2, 1000, 0), 200);
        check.due("the 201st", x.promise(1, 3, 1000, 0), Check.ROOM);
        check.due("none comes of it", x.promise(1, 1, 1000, 0), 0);
        check.due("one that waits needs no room", x.promise(1, 1, 2000, 0), 1);
        x.tick(0);
        check.due("one that was sent does", x.promise(1, 1, 3000, 0), Check.ROOM);
        x.out(1, 3);
        check.due("without wishes", x.promise(1, 3, 1000, 0), 0);
    }

    private static void roomOfItems() {
        check.says("ROOM (as with event()).");
        CustomerNotices x = Check.withWishes(0, 3);
        x.customer(0, 0);
        x.wish(2, 3, 0, 0);
        for (int item = 1; item <= 59; item++) {
            x.event(1, item, 5, 0);
        }
        check.due("the 60th", x.promise(1, 60, 0, 0), 1);
        check.due("the 61st", x.promise(1, 61, 0, 0), Check.ROOM);
        check.due("another customer's", x.promise(2, 60, 0, 0), Check.ROOM);
        check.due("one that is known, and waits", x.promise(1, 60, 1, 0), 1);
        x.tick(0);
        check.due("one that is known, and was sent", x.promise(1, 60, 2, 0), 2);
        check.due("one that ended", x.promise(1, 59, 0, 0), 0);
    }
}
