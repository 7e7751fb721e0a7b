/** Promise 7: tick. */
public final class Promise07TickTest {
    private static final Check check = new Check();

    public static void main(String[] args) {
        answers();
        joined();
        joinedWithOnesThatAreNotYetDue();
        leastTimesAreThoseBeforeTheTick();
        marked();
        quietOnesCountForTheLeastTime();
        wishesAreThoseOfTheTick();
        messages();
        check.end();
    }

    private static void answers() {
        CustomerNotices x = Check.withWishes(0);
        check.due("nothing waits", x.tick(0), 0);
        x.event(1, 1, 0, 5);
        x.event(1, 1, 0, 6);
        check.due("below its time", x.tick(4), 0);
        check.due("below the clock", x.tick(3), Check.OUTSIDE);
        check.due("above 10^9", x.tick(1000000001L), Check.OUTSIDE);
        check.due("extremes", x.tick(Long.MIN_VALUE), Check.OUTSIDE);
        check.due("extremes", x.tick(Long.MAX_VALUE), Check.OUTSIDE);
        check.due("its time", x.tick(5), 1);
        check.due("once", x.tick(5), 0);
        check.due("the other", x.tick(1000000000L), 1);
        check.due("the last time, again", x.tick(1000000000L), 0);
        check.due("an event below the clock", x.event(1, 1, 0, 999999999L), Check.OUTSIDE);
    }

    private static void joined() {
        CustomerNotices x = Check.withWishes(0, 1);
        x.customer(0, 0);
        x.wish(2, 0, 0, 0);
        x.join(30);
        x.event(1, 1, 0, 10);
        x.event(1, 1, 1, 35);
        x.event(2, 1, 0, 20);
        check.due("before", x.tick(39), 0);
        check.due("all of the one customer", x.tick(40), 2);
        check.due("before", x.tick(49), 0);
        check.due("the other customer", x.tick(50), 1);
    }

    private static void joinedWithOnesThatAreNotYetDue() {
        CustomerNotices x = Check.withWishes(0);
        x.join(30);
        x.event(1, 1, 0, 41);
        x.event(1, 1, 0, 10);
        check.due("the later one stays", x.tick(40), 1);
        check.due("which one", x.sent(0, 0), 2);
        check.due("it has its own least time then", x.tick(70), 0);
        check.due("behind that", x.tick(71), 1);
    }

    private static void leastTimesAreThoseBeforeTheTick() {
        CustomerNotices x = Check.withWishes(0, 1);
        x.wish(1, 4, 1, 0);
        x.join(30);
        x.event(1, 1, 4, 0);
        x.event(1, 1, 0, 25);
        check.due("the first fails, the second is due all the same", x.tick(30), 1);
        check.due("which failed", x.failed(0), 1);
    }

    private static void marked() {
        CustomerNotices x = Check.withWishes(0, 7);
        x.join(1440);
        x.quiet(1, 0, 1439);
        x.event(1, 1, 7, 5);
        x.event(1, 1, 0, 10);
        check.due("below its time", x.tick(4), 0);
        check.due("in quiet hours, and not joined", x.tick(5), 1);
        check.due("which one", x.sent(0, 0), 1);
        x.quiet(1, 0, 0);
        x.join(10);
        x.event(1, 1, 7, 15);
        check.due("before the other one", x.tick(19), 1);
        check.due("the other one", x.tick(20), 1);

        CustomerNotices y = Check.withWishes(0, 7);
        y.join(10);
        y.event(1, 1, 7, 0);
        y.event(1, 1, 0, 8);
        check.due("marked ones do not count for the least time", y.tick(10), 1);
        check.due("the other's own", y.tick(17), 0);
        check.due("the other's own", y.tick(18), 1);
    }

    private static void quietOnesCountForTheLeastTime() {
        CustomerNotices x = Check.withWishes(0);
        x.join(10);
        x.quiet(1, 0, 50);
        x.event(1, 1, 0, 5);
        check.due("quiet", x.tick(49), 0);
        x.event(1, 1, 0, 50);
        check.due("both", x.tick(50), 2);
        check.due("one message", x.sent(1, 6), 1);
    }

    private static void wishesAreThoseOfTheTick() {
        CustomerNotices x = Check.withWishes(0);
        x.event(1, 1, 0, 0);
        x.wish(1, 0, 1, 5);
        x.wish(1, 0, 3, 4);
        x.tick(0);
        check.due("channel", x.sent(0, 4), 3);
    }

    private static void messages() {
        CustomerNotices x = Check.withWishes(0, 4, 7);
        x.customer(0, 0);
        x.wish(2, 0, 0, 0);
        x.event(1, 1, 4, 0);
        x.event(2, 1, 0, 0);
        x.event(1, 1, 0, 0);
        x.event(2, 1, 0, 0);
        x.event(1, 1, 7, 0);
        check.due("the code fails", x.tick(0), 4);
        check.due("notice 2", x.sent(0, 6), 2);
        check.due("notice 3, not the one that failed", x.sent(1, 6), 3);
        check.due("notice 4", x.sent(2, 6), 2);
        check.due("notice 5", x.sent(3, 6), 3);
        x.event(1, 1, 0, 0);
        check.due("another tick at the same clock", x.tick(0), 1);
        check.due("is another message", x.sent(4, 6), 6);
    }
}
