/** Promise 6: promise. */
public final class Promise06PromiseTest {
    private static final Check check = new Check();

    public static void main(String[] args) {
        refusals();
        movesWhileItWaits();
        movesBehindOneThatWasSent();
        movesBehindOneThatFailedOrWasDropped();
        nothingIsKeptWithoutWishes();
        nothingIsKeptBehindAnEnd();
        itemsAndCustomersAreApart();
        correctionsPromiseNothing();
        roomOfItems();
        roomOfNotices();
        check.end();
    }

    private static void refusals() {
        CustomerNotices x = Check.withWishes(3);
        check.due("nobody", x.promise(2, 1, 0, 0), Check.UNKNOWN);
        check.due("unknown before outside", x.promise(0, 0, -1, -1), Check.UNKNOWN);
        check.due("item 0", x.promise(1, 0, 0, 0), Check.OUTSIDE);
        check.due("item 10000", x.promise(1, 10000, 0, 0), Check.OUTSIDE);
        check.due("when -1", x.promise(1, 1, -1, 0), Check.OUTSIDE);
        check.due("when above 10^9", x.promise(1, 1, 1000000001L, 0), Check.OUTSIDE);
        check.due("bound -1", x.promise(1, 1, 0, -1), Check.OUTSIDE);
        check.due("bound above 10^6", x.promise(1, 1, 0, 1000001), Check.OUTSIDE);
        check.due("extremes", x.promise(1, 1, Long.MIN_VALUE, Long.MAX_VALUE), Check.OUTSIDE);
        x.tick(50);
        check.due("below the clock", x.promise(1, 1, 0, 1000000), 1);
        check.due("edges", x.promise(1, 9999, 1000000000L, 0), 2);
        x.out(1, 3);
        check.due("outside before none", x.promise(1, 1, -1, 0), Check.OUTSIDE);
    }

    private static void movesWhileItWaits() {
        CustomerNotices x = Check.withWishes(3);
        check.due("first", x.promise(1, 1, 500, 30), 1);
        check.due("the same", x.promise(1, 1, 500, 0), 0);
        check.due("30 more", x.promise(1, 1, 530, 30), 0);
        check.due("30 less", x.promise(1, 1, 470, 30), 0);
        check.due("31 less", x.promise(1, 1, 469, 30), 1);
        check.due("from there 31 more", x.promise(1, 1, 500, 30), 1);
        check.due("tick", x.tick(7), 1);
        check.dueSent(x, 0, 1, 1, 1, 3, 1, 6, 1, 7, 500);
    }

    private static void movesBehindOneThatWasSent() {
        CustomerNotices x = Check.withWishes(3);
        x.tick(5);
        x.join(10);
        check.due("first", x.promise(1, 1, 100, 0), 1);
        check.due("its time is the clock", x.tick(14), 0);
        check.due("still waits", x.promise(1, 1, 101, 0), 1);
        check.due("its time does not move", x.tick(15), 1);
        check.due("as told", x.promise(1, 1, 101, 0), 0);
        check.due("not more than bound away", x.promise(1, 1, 100, 1), 0);
        check.due("what was not told does not count", x.promise(1, 1, 102, 1), 0);
        check.due("more", x.promise(1, 1, 103, 1), 2);
        check.due("that one waits", x.promise(1, 1, 1000000000L, 1000000), 2);
        check.due("tick", x.tick(25), 1);
        check.due("the first tells what it told", x.sent(0, 8), 101);
        check.due("the second", x.sent(1, 8), 1000000000);
    }

    private static void movesBehindOneThatFailedOrWasDropped() {
        CustomerNotices x = Check.withWishes(3);
        x.works(1, false);
        x.promise(1, 1, 100, 0);
        x.tick(0);
        check.due("failed", x.failed(0), 1);
        check.due("within the bound of one that failed", x.promise(1, 1, 110, 10), 0);
        check.due("beyond it", x.promise(1, 1, 111, 10), 2);
        check.due("dropped", x.correct(2, 0), 0);
        check.due("within the bound of one that was dropped", x.promise(1, 1, 121, 10), 0);
        check.due("beyond it", x.promise(1, 1, 122, 10), 3);
    }

    private static void nothingIsKeptWithoutWishes() {
        CustomerNotices x = Check.withWishes(0);
        check.due("without wishes", x.promise(1, 1, 100, 0), 0);
        x.wish(1, 3, 1, 0);
        check.due("the first time", x.promise(1, 1, 100, 1000000), 1);
        x.tick(0);
        x.out(1, 3);
        check.due("without wishes", x.promise(1, 1, 200, 0), 0);
        x.wish(1, 3, 1, 0);
        check.due("nothing was kept", x.promise(1, 1, 200, 50), 2);
        x.out(1, 3);
        for (int item = 2; item <= 62; item++) {
            check.due("takes no room", x.promise(1, item, 200, 0), 0);
        }
        check.due("room for an end", x.event(1, 100, 5, 0), 0);
    }

    private static void nothingIsKeptBehindAnEnd() {
        CustomerNotices x = Check.withWishes(3, 5);
        check.due("first", x.promise(1, 1, 100, 0), 1);
        check.due("end", x.event(1, 1, 5, 0), 2);
        check.due("while the promise waits", x.promise(1, 1, 300, 0), 0);
        check.due("tick", x.tick(0), 2);
        check.due("the old time is told", x.sent(0, 8), 100);
        check.due("the end is corrected", x.correct(2, 0), 3);
        check.due("the old time counts", x.promise(1, 1, 110, 10), 0);
        check.due("beyond it", x.promise(1, 1, 111, 10), 4);
        check.due("an end alone", x.event(1, 2, 5, 0), 5);
        check.due("it is corrected", x.correct(5, 0), 0);
        check.due("the first time for that item", x.promise(1, 2, 0, 1000000), 6);
    }

    private static void itemsAndCustomersAreApart() {
        CustomerNotices x = Check.withWishes(3);
        x.customer(0, 0);
        x.wish(2, 3, 0, 0);
        check.due("first", x.promise(1, 1, 100, 0), 1);
        check.due("another item", x.promise(1, 2, 100, 0), 2);
        check.due("another customer", x.promise(2, 1, 100, 0), 3);
        check.due("the first one's", x.promise(1, 1, 101, 0), 1);
        check.due("the other customer's", x.promise(2, 1, 101, 0), 3);
    }

    private static void correctionsPromiseNothing() {
        CustomerNotices x = Check.withWishes(3);
        x.promise(1, 1, 100, 0);
        x.tick(0);
        check.due("correction", x.correct(1, 0), 2);
        check.due("the promise is the latest", x.promise(1, 1, 100, 0), 0);
        check.due("a correction that waits tells no new time", x.promise(1, 1, 200, 0), 3);
        x.tick(0);
        check.due("of the correction", x.sent(1, 8), -1);
        check.due("of the new one", x.sent(2, 8), 200);
    }

    private static void roomOfItems() {
        CustomerNotices x = Check.withWishes(3);
        for (int item = 1; item <= 60; item++) {
            check.due("promise", x.promise(1, item, 100, 0), item);
        }
        check.due("61st", x.promise(1, 61, 100, 0), Check.ROOM);
        check.due("outside before room", x.promise(1, 61, 100, -1), Check.OUTSIDE);
        check.due("no 61st notice came", x.tick(0), 60);
        check.due("a known item", x.promise(1, 60, 101, 0), 61);
        check.due("an end for the 61st", x.event(1, 61, 6, 0), Check.ROOM);
        x.out(1, 3);
        check.due("without wishes", x.promise(1, 61, 100, 0), 0);
    }

    private static void roomOfNotices() {
        CustomerNotices x = Check.withWishes(0, 3);
        check.due("first", x.promise(1, 1, 100, 0), 1);
        Check.fillNotices(x, 200, 0);
        check.due("one that waits needs no room", x.promise(1, 1, 200, 0), 1);
        check.due("none comes of it", x.promise(1, 1, 200, 0), 0);
        check.due("first, for another item", x.promise(1, 2, 0, 0), Check.ROOM);
        x.tick(0);
        check.due("another for this item", x.promise(1, 1, 300, 0), Check.ROOM);
        check.due("which changed nothing", x.promise(1, 1, 201, 1), 0);
        for (int item = 2; item <= 60; item++) {
            check.due("items that were refused took no room", x.event(1, item, 5, 0), 0);
        }
        check.due("61st", x.event(1, 61, 5, 0), Check.ROOM);
    }
}
