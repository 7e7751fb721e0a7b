/** "REFUSALS are answers, of several the first one here": UNKNOWN, OUTSIDE, STATE, ROOM, for each call that has two. */
public final class BoundaryRefusalOrderTest {
    private static final Check check = new Check();
    private static final long LATE = 1000000001L;

    public static void main(String[] args) {
        check.says("REFUSALS are answers, of several the first one here");
        customer();
        wish();
        quiet();
        event();
        eventWithoutRoom();
        promise();
        promiseWithoutRoom();
        out();
        correctUnknownAndOutside();
        correctState();
        check.end();
    }

    private static void customer() {
        CustomerNotices x = new CustomerNotices();
        for (int n = 1; n <= 40; n++) {
            x.customer(0, 0);
        }
        check.due("customer: room", x.customer(0, 0), Check.ROOM);
        check.due("customer: outside (language) and room", x.customer(10, 0), Check.OUTSIDE);
        check.due("customer: outside (zone) and room", x.customer(0, 15), Check.OUTSIDE);
    }

    private static void wish() {
        CustomerNotices x = Check.withWishes(0);
        check.due("wish: unknown and outside (kind)", x.wish(2, 8, 0, 0), Check.UNKNOWN);
        check.due("wish: unknown and outside (channel)", x.wish(2, 0, 4, 0), Check.UNKNOWN);
        check.due("wish: unknown and outside (order)", x.wish(2, 0, 0, 10), Check.UNKNOWN);
    }

    private static void quiet() {
        CustomerNotices x = Check.withWishes(0);
        check.due("quiet: unknown and outside (from)", x.quiet(2, -1, 0), Check.UNKNOWN);
        check.due("quiet: unknown and outside (until)", x.quiet(2, 0, 1440), Check.UNKNOWN);
    }

    private static void event() {
        CustomerNotices x = Check.withWishes(0);
        x.tick(5);
        check.due("event: unknown and outside (item)", x.event(2, 0, 0, 5), Check.UNKNOWN);
        check.due("event: unknown and outside (kind)", x.event(2, 1, 8, 5), Check.UNKNOWN);
        check.due("event: unknown and outside (below the clock)", x.event(2, 1, 0, 4), Check.UNKNOWN);
        check.due("event: unknown and outside (above 10^9)", x.event(2, 1, 0, LATE), Check.UNKNOWN);
    }

    private static void eventWithoutRoom() {
        CustomerNotices x = Check.withWishes(0);
        x.tick(5);
        Check.fillNotices(x, 200, 5);
        check.due("event: room", x.event(1, 1, 0, 5), Check.ROOM);
        check.due("event: unknown and room", x.event(2, 1, 0, 5), Check.UNKNOWN);
        check.due("event: outside (item) and room", x.event(1, 0, 0, 5), Check.OUTSIDE);
        check.due("event: outside (kind) and room", x.event(1, 1, 8, 5), Check.OUTSIDE);
        check.due("event: outside (below the clock) and room", x.event(1, 1, 0, 4), Check.OUTSIDE);
        check.due("event: outside (above 10^9) and room", x.event(1, 1, 0, LATE), Check.OUTSIDE);
        for (int item = 1; item <= 60; item++) {
            x.event(1, item, 5, 5);
        }
        check.due("event: room of items", x.event(1, 61, 5, 5), Check.ROOM);
        check.due("event: unknown and room of items", x.event(2, 61, 5, 5), Check.UNKNOWN);
        check.due("event: outside (item) and room of items", x.event(1, 10000, 5, 5), Check.OUTSIDE);
        check.due("event: outside (below the clock) and room of items", x.event(1, 61, 5, 4), Check.OUTSIDE);
    }

    private static void promise() {
        CustomerNotices x = Check.withWishes(3);
        check.due("promise: unknown and outside (item)", x.promise(2, 0, 0, 0), Check.UNKNOWN);
        check.due("promise: unknown and outside (when)", x.promise(2, 1, -1, 0), Check.UNKNOWN);
        check.due("promise: unknown and outside (bound)", x.promise(2, 1, 0, -1), Check.UNKNOWN);
    }

    private static void promiseWithoutRoom() {
        CustomerNotices x = Check.withWishes(0, 3);
        for (int item = 1; item <= 60; item++) {
            x.event(1, item, 5, 0);
        }
        promiseIsRefusedInOrder(x, "room of items");
        CustomerNotices y = Check.withWishes(0, 3);
        Check.fillNotices(y, 200, 0);
        promiseIsRefusedInOrder(y, "room of notices");
    }

    private static void promiseIsRefusedInOrder(CustomerNotices x, String room) {
        check.due("promise: " + room, x.promise(1, 61, 0, 0), Check.ROOM);
        check.due("promise: unknown and " + room, x.promise(2, 61, 0, 0), Check.UNKNOWN);
        check.due("promise: outside (item) and " + room, x.promise(1, 10000, 0, 0), Check.OUTSIDE);
        check.due("promise: outside (when) and " + room, x.promise(1, 61, LATE, 0), Check.OUTSIDE);
        check.due("promise: outside (bound) and " + room, x.promise(1, 61, 0, 1000001), Check.OUTSIDE);
    }

    private static void out() {
        CustomerNotices x = Check.withWishes(0);
        check.due("out: unknown and outside", x.out(2, 8), Check.UNKNOWN);
    }

    private static void correctUnknownAndOutside() {
        CustomerNotices x = Check.withWishes(0);
        x.tick(5);
        check.due("correct: unknown and outside (below the clock)", x.correct(1, 4), Check.UNKNOWN);
        check.due("correct: unknown and outside (above 10^9)", x.correct(1, LATE), Check.UNKNOWN);
    }

    /** Notice 1 failed, 2 was dropped, 3 was corrected by 4, and 5 was sent; there is no room for another one. */
    private static void correctState() {
        CustomerNotices x = Check.withWishes(0, 1, 4);
        x.tick(5);
        x.event(1, 1, 4, 5);
        x.event(1, 1, 1, 5);
        x.out(1, 1);
        x.event(1, 1, 0, 5);
        x.tick(5);
        x.correct(3, 5);
        Check.fillNotices(x, 200, 5);
        x.tick(5);
        check.due("correct: room", x.correct(5, 5), Check.ROOM);
        check.due("correct: unknown and room", x.correct(201, 5), Check.UNKNOWN);
        check.due("correct: outside and room", x.correct(5, 4), Check.OUTSIDE);
        for (int notice = 1; notice <= 4; notice++) {
            check.due("correct: state and room", x.correct(notice, 5), Check.STATE);
            check.due("correct: outside (below the clock) and state", x.correct(notice, 4), Check.OUTSIDE);
            check.due("correct: outside (above 10^9) and state", x.correct(notice, LATE), Check.OUTSIDE);
        }
    }
}
