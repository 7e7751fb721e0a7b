/** The boundary cases of TICK, under "Terms", and of promise 7. */
public final class BoundaryTickTest {
    private static final Check check = new Check();
    private static final long LAST_TIME = 1000000000L;

    public static void main(String[] args) {
        theClockIsAnotherOne();
        looksAtThemInOrder();
        timeNotAboveTheClock();
        markedOnesAreNotJoined();
        clockNotBelowTheLeastTimeAndJoin();
        leastOfItsCustomer();
        leastOfThoseThatWait();
        leastOfThoseNotMarked();
        leastBeforeTheTick();
        joinIsZeroAtFirst();
        quietByTheClock();
        butAMarkedOne();
        codesGoByTheSafeChannel();
        noneThatWorks();
        messageOfTheFirst();
        howManyAreSent();
        outside();
        check.end();
    }

    private static void theClockIsAnotherOne() {
        check.says("the CLOCK is another one.");
        CustomerNotices x = Check.withWishes(0);
        check.due("tick", x.tick(100), 0);
        check.due("below it", x.event(1, 1, 0, 99), Check.OUTSIDE);
        check.due("at it", x.event(1, 1, 0, 100), 1);
        check.due("the same one", x.tick(100), 1);
        check.due("back", x.tick(99), Check.OUTSIDE);
        check.due("one more", x.tick(101), 0);
        check.due("the first is below it", x.event(1, 1, 0, 100), Check.OUTSIDE);
    }

    private static void looksAtThemInOrder() {
        check.says("Notices that wait are looked at in order");
        CustomerNotices x = Check.withWishes(0, 4, 7);
        x.customer(0, 0);
        x.wish(2, 0, 0, 0);
        x.event(2, 1, 0, 9);
        x.event(1, 1, 4, 8);
        x.event(1, 1, 7, 7);
        x.event(1, 1, 4, 0);
        x.event(1, 1, 0, 3);
        check.due("tick", x.tick(9), 3);
        check.due("first", x.sent(0, 0), 1);
        check.due("second", x.sent(1, 0), 3);
        check.due("third", x.sent(2, 0), 5);
        check.due("first that failed", x.failed(0), 2);
        check.due("second that failed", x.failed(1), 4);
    }

    private static void timeNotAboveTheClock() {
        check.says("one is DUE, if its time is not above the clock");
        for (int kind : new int[] {0, 7}) {
            CustomerNotices x = Check.withWishes(0, 7);
            x.event(1, 1, kind, 10);
            x.event(1, 1, kind, LAST_TIME);
            check.due("above", x.tick(9), 0);
            check.due("at", x.tick(10), 1);
            check.due("above", x.tick(LAST_TIME - 1), 0);
            check.due("at", x.tick(LAST_TIME), 1);
        }
        CustomerNotices y = Check.withWishes(0);
        y.event(1, 1, 0, 0);
        check.due("below", y.tick(LAST_TIME), 1);
    }

    private static void markedOnesAreNotJoined() {
        check.says("and it is marked,");
        CustomerNotices x = Check.withWishes(0, 7);
        x.join(1440);
        x.event(1, 1, 0, 5);
        x.event(1, 1, 7, 5);
        check.due("below its time", x.tick(4), 0);
        check.due("the marked one alone", x.tick(5), 1);
        check.due("which", x.sent(0, 0), 2);
    }

    private static void clockNotBelowTheLeastTimeAndJoin() {
        check.says("the clock is not below the least time of those of its customer that wait and are not marked");
        for (int join : new int[] {0, 1, 30, 1440}) {
            CustomerNotices x = Check.withWishes(0, 1);
            x.join(join);
            x.event(1, 1, 1, 10 + join);
            x.event(1, 1, 0, 10);
            x.event(1, 1, 0, 11 + join);
            check.due("below, by 1, with join " + join, x.tick(9 + join), 0);
            check.due("not below, with join " + join, x.tick(10 + join), 2);
            check.due("the later one alone", x.tick(10 + join + join), 0);
            check.due("has its own least time", x.tick(11 + join + join), 1);
        }
    }

    private static void leastOfItsCustomer() {
        check.says("of those of its customer");
        CustomerNotices x = Check.withWishes(0);
        x.customer(0, 0);
        x.wish(2, 0, 0, 0);
        x.join(10);
        x.event(1, 1, 0, 0);
        x.event(2, 1, 0, 5);
        check.due("the one", x.tick(10), 1);
        check.due("not the other", x.tick(14), 0);
        check.due("the other", x.tick(15), 1);
    }

    private static void leastOfThoseThatWait() {
        check.says("that wait");
        CustomerNotices x = Check.withWishes(0, 1, 4);
        x.event(1, 1, 0, 0);
        x.event(1, 1, 4, 0);
        check.due("one was sent, one failed", x.tick(0), 1);
        x.join(10);
        x.event(1, 1, 1, 1);
        check.due("one was dropped", x.out(1, 1), 1);
        x.event(1, 1, 0, 2);
        check.due("one is corrected while it waits", x.correct(4, 2), 0);
        x.event(1, 1, 0, 5);
        check.due("none of them counts", x.tick(14), 0);
        check.due("its own time does", x.tick(15), 1);
    }

    private static void leastOfThoseNotMarked() {
        check.says("and are not marked");
        CustomerNotices x = Check.withWishes(0, 7);
        x.join(10);
        x.event(1, 1, 7, 9);
        x.event(1, 1, 7, 0);
        x.event(1, 1, 0, 5);
        check.due("the marked ones", x.tick(14), 2);
        check.due("the other", x.tick(15), 1);
    }

    private static void leastBeforeTheTick() {
        check.says("(before the tick)");
        CustomerNotices x = Check.withWishes(0, 4);
        x.join(10);
        x.event(1, 1, 4, 0);
        x.event(1, 1, 0, 1);
        x.event(1, 1, 0, 10);
        check.due("the first fails, the others are due by its time", x.tick(10), 2);
        x.event(1, 1, 0, 20);
        x.event(1, 1, 0, 30);
        check.due("the first is sent, the second is due by its time", x.tick(30), 2);
    }

    private static void joinIsZeroAtFirst() {
        check.says("and JOIN minutes more (0 at first).");
        CustomerNotices x = Check.withWishes(0);
        x.event(1, 1, 0, 7);
        check.due("before", x.tick(6), 0);
        check.due("at once", x.tick(7), 1);
    }

    private static void quietByTheClock() {
        check.says("One that is due stays waiting in quiet hours (by the clock)");
        CustomerNotices x = Check.withWishes(0);
        x.quiet(1, 10, 20);
        x.event(1, 1, 0, 9);
        check.due("the first quiet minute, though its time is not", x.tick(10), 0);
        x.event(1, 1, 0, 19);
        x.works(1, false);
        check.due("the last quiet minute", x.tick(19), 0);
        check.due("it waits and has not failed", x.failed(0), -1);
        x.works(1, true);
        check.due("behind it, though its time is quiet", x.tick(20), 2);
        check.due("one message", x.sent(1, 6), 1);
    }

    private static void butAMarkedOne() {
        check.says("but a marked one.");
        CustomerNotices x = Check.withWishes(0, 7);
        x.quiet(1, 0, 1439);
        x.event(1, 1, 0, 0);
        x.event(1, 1, 7, 0);
        check.due("the marked one alone", x.tick(0), 1);
        check.due("which", x.sent(0, 0), 2);
        check.due("a message of its own", x.sent(0, 6), 2);
        x.event(1, 1, 7, 1);
        x.works(1, false);
        check.due("a marked one fails in quiet hours, too", x.tick(1), 0);
        check.due("which", x.failed(0), 3);
    }

    private static void codesGoByTheSafeChannel() {
        check.says("(for a code the safe channel alone, if it is wished)");
        CustomerNotices x = new CustomerNotices();
        x.customer(0, 0);
        for (int channel = 1; channel <= 3; channel++) {
            x.wish(1, 4, channel, 0);
        }
        x.event(1, 1, 4, 0);
        check.due("it is not wished", x.tick(0), 0);
        check.due("so it failed", x.failed(0), 1);
        x.wish(1, 4, 0, 9);
        x.event(1, 1, 4, 0);
        check.due("it is wished", x.tick(0), 1);
        check.due("by it", x.sent(0, 4), 0);
        x.works(0, false);
        x.event(1, 1, 4, 0);
        check.due("it does not work", x.tick(0), 0);
        check.due("so it failed, too", x.failed(1), 3);
    }

    private static void noneThatWorks() {
        check.says("by the first one that works it is SENT; if there is none it FAILED.");
        CustomerNotices x = new CustomerNotices();
        x.customer(0, 0);
        for (int channel = 0; channel <= 3; channel++) {
            x.wish(1, 0, channel, channel);
        }
        for (int channel = 0; channel <= 3; channel++) {
            x.event(1, 1, 0, 0);
            check.due("sent", x.tick(0), 1);
            check.due("by the first one that works", x.sent(channel, 4), channel);
            x.works(channel, false);
        }
        x.event(1, 1, 0, 0);
        check.due("none works", x.tick(0), 0);
        check.due("it failed", x.failed(0), 5);
        x.works(0, true);
        check.due("and is not tried again", x.tick(0), 0);
        x.out(1, 0);
        x.wish(1, 0, 3, 0);
        x.event(1, 1, 0, 0);
        check.due("one works that is not wished", x.tick(0), 0);
        check.due("it failed", x.failed(1), 6);
    }

    private static void messageOfTheFirst() {
        check.says("All that is sent to one customer in one tick is a MESSAGE, which has the number of the first");
        CustomerNotices x = Check.withWishes(0, 4);
        x.customer(0, 0);
        x.wish(2, 0, 0, 0);
        x.event(1, 1, 4, 0);
        x.event(1, 1, 0, 0);
        x.event(2, 1, 0, 0);
        x.event(1, 2, 0, 0);
        check.due("the first fails", x.tick(0), 3);
        check.due("the first of those that are sent", x.sent(0, 6), 2);
        check.due("another customer", x.sent(1, 6), 3);
        check.due("the same customer", x.sent(2, 6), 2);
        x.event(1, 1, 0, 0);
        check.due("another tick", x.tick(0), 1);
        check.due("is another message", x.sent(3, 6), 5);
        check.due("the old one is as it was", x.sent(2, 6), 2);
    }

    private static void howManyAreSent() {
        check.says("TICK: how many notices are sent.");
        check.due("without customers", new CustomerNotices().tick(0), 0);
        check.due("without notices", Check.withWishes(0).tick(0), 0);
        CustomerNotices x = Check.withWishes(0);
        Check.fillNotices(x, 200, 0);
        check.due("all there can be", x.tick(0), 200);
        check.due("the last", x.sent(199, 0), 200);
        check.due("the last one's message", x.sent(199, 6), 1);
        check.due("again", x.tick(0), 0);
        CustomerNotices y = Check.withWishes(0);
        y.works(1, false);
        Check.fillNotices(y, 200, 0);
        check.due("none: all fail", y.tick(0), 0);
        check.due("the last", y.failed(199), 200);
    }

    private static void outside() {
        check.says("OUTSIDE (t is below the clock, or above 10^9).");
        CustomerNotices x = Check.withWishes(0);
        check.due("-1", x.tick(-1), Check.OUTSIDE);
        check.due("least of all", x.tick(Long.MIN_VALUE), Check.OUTSIDE);
        check.due("above", x.tick(LAST_TIME + 1), Check.OUTSIDE);
        check.due("beyond an int", x.tick(1L << 32), Check.OUTSIDE);
        check.due("most of all", x.tick(Long.MAX_VALUE), Check.OUTSIDE);
        check.due("not above", x.tick(LAST_TIME), 0);
        check.due("below the clock", x.tick(LAST_TIME - 1), Check.OUTSIDE);
        check.due("the clock", x.tick(LAST_TIME), 0);
    }
}
