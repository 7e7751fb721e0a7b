/** Promise 5: event. */
public final class Promise05EventTest {
    private static final Check check = new Check();

    public static void main(String[] args) {
        answers();
        refusals();
        ends();
        endsWithoutWishes();
        roomOfNotices();
        roomOfItems();
        itemsAreCountedOverAllCustomers();
        check.end();
    }

    private static void answers() {
        CustomerNotices x = Check.withWishes(0, 3, 7);
        check.due("first", x.event(1, 1, 0, 0), 1);
        check.due("without wishes", x.event(1, 1, 1, 0), 0);
        check.due("greatest item and time", x.event(1, 9999, 7, 1000000000L), 2);
        check.due("kind 3", x.event(1, 1, 3, 0), 3);
        x.tick(0);
        check.dueSent(x, 1, 3, 1, 1, 3, 1, 6, 1, 0, -1);
        check.due("a told kind 3 is no promised time", x.promise(1, 1, 5, 1000000), 4);
    }

    private static void refusals() {
        CustomerNotices x = Check.withWishes(0);
        x.tick(10);
        check.due("nobody", x.event(2, 1, 0, 10), Check.UNKNOWN);
        check.due("unknown before outside", x.event(2, 0, 8, 9), Check.UNKNOWN);
        check.due("item 0", x.event(1, 0, 0, 10), Check.OUTSIDE);
        check.due("item 10000", x.event(1, 10000, 0, 10), Check.OUTSIDE);
        check.due("kind -1", x.event(1, 1, -1, 10), Check.OUTSIDE);
        check.due("kind 8", x.event(1, 1, 8, 10), Check.OUTSIDE);
        check.due("below the clock", x.event(1, 1, 0, 9), Check.OUTSIDE);
        check.due("above 10^9", x.event(1, 1, 0, 1000000001L), Check.OUTSIDE);
        check.due("beyond an int", x.event(1, 1, 0, (1L << 32) + 10), Check.OUTSIDE);
        check.due("outside without wishes, too", x.event(1, 1, 1, 9), Check.OUTSIDE);
        check.due("at the clock", x.event(1, 1, 0, 10), 1);
    }

    private static void ends() {
        CustomerNotices x = Check.withWishes(0, 3, 5, 6);
        x.customer(0, 0);
        x.wish(2, 0, 0, 0);
        check.due("before", x.event(1, 1, 0, 0), 1);
        check.due("an end", x.event(1, 1, 5, 100), 2);
        check.due("behind it", x.event(1, 1, 0, 0), 0);
        check.due("another end behind it", x.event(1, 1, 6, 0), 0);
        check.due("a promise behind it", x.promise(1, 1, 0, 0), 0);
        check.due("refused behind it", x.event(1, 1, 8, 0), Check.OUTSIDE);
        check.due("another item", x.event(1, 2, 0, 0), 3);
        check.due("another customer", x.event(2, 1, 0, 0), 4);
        check.due("kind 6 is an end", x.event(1, 2, 6, 0), 5);
        check.due("behind that", x.event(1, 2, 0, 0), 0);
        check.due("those that waited are sent", x.tick(100), 5);
    }

    private static void endsWithoutWishes() {
        CustomerNotices x = Check.withWishes(0);
        check.due("an end", x.event(1, 1, 6, 0), 0);
        check.due("has ended", x.event(1, 1, 0, 0), 0);
        check.due("kind 4 is no end", x.event(1, 2, 4, 0), 0);
        check.due("kind 7 is no end", x.event(1, 2, 7, 0), 0);
        check.due("has not ended", x.event(1, 2, 0, 0), 1);
    }

    private static void roomOfNotices() {
        CustomerNotices x = Check.withWishes(0, 5);
        Check.fillNotices(x, 199, 0);
        check.due("the 200th", x.event(1, 1, 0, 0), 200);
        check.due("the 201st", x.event(1, 1, 0, 0), Check.ROOM);
        check.due("outside before room", x.event(1, 0, 0, 0), Check.OUTSIDE);
        check.due("none comes of it", x.event(1, 1, 1, 0), 0);
        check.due("an end", x.event(1, 1, 5, 0), Check.ROOM);
        check.due("which changed nothing", x.event(1, 1, 0, 0), Check.ROOM);
        check.due("an end without a notice", x.event(1, 1, 6, 0), 0);
        check.due("which has ended it", x.event(1, 1, 0, 0), 0);
        check.due("all are sent", x.tick(0), 200);
        check.due("still no room", x.event(1, 2, 0, 0), Check.ROOM);
    }

    private static void roomOfItems() {
        CustomerNotices x = Check.withWishes(0, 3);
        for (int item = 1; item <= 30; item++) {
            check.due("end", x.event(1, item, 5, 0), 0);
            check.due("promise", x.promise(1, 30 + item, 1, 1), item);
        }
        check.due("61st, without wishes", x.event(1, 61, 5, 0), Check.ROOM);
        check.due("has not ended", x.event(1, 61, 0, 0), 31);
        check.due("known by a promise", x.event(1, 60, 5, 0), 0);
        check.due("has ended", x.event(1, 60, 0, 0), 0);
        check.due("ended before", x.event(1, 1, 5, 0), 0);
        check.due("other kinds need none", x.event(1, 500, 3, 0), 32);
    }

    private static void itemsAreCountedOverAllCustomers() {
        CustomerNotices x = new CustomerNotices();
        for (int customer = 1; customer <= 3; customer++) {
            x.customer(0, 0);
            for (int item = 1; item <= 20; item++) {
                check.due("end", x.event(customer, item, 6, 0), 0);
            }
        }
        check.due("61st", x.event(1, 21, 6, 0), Check.ROOM);
    }
}
