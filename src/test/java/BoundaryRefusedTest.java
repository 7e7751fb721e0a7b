import java.util.ArrayList;
import java.util.List;
import java.util.function.Supplier;
import java.util.function.ToIntFunction;

/** "A call that is refused changes nothing": behind each one, all that can be asked answers as if it had not been. */
public final class BoundaryRefusedTest {
    private static final Check check = new Check();
    private static final long LATE = 1000000001L;

    public static void main(String[] args) {
        check.says("A call that is refused changes nothing.");
        customersAreRefused();
        wishesAreRefused();
        quietHoursAreRefused();
        eventsAreRefused();
        promisesAreRefused();
        ticksAreRefused();
        readingIsRefused();
        outIsRefused();
        correctionsAreRefused();
        joinIsRefused();
        roomIsRefused();
        channelsThatAreNotThere();
        check.end();
    }

    /** The clock is 100; notices 1 and 5 were sent, 2 failed, 3 was dropped, 4 corrects 1; 6 to 9 wait. */
    private static CustomerNotices busy() {
        CustomerNotices x = Check.withWishes(0, 1, 3, 4, 5, 7);
        x.customer(9, 14);
        x.wish(2, 0, 3, 9);
        x.wish(2, 0, 2, 9);
        x.quiet(2, 1000, 100);
        x.tick(90);
        x.event(1, 1, 0, 90);
        x.event(1, 1, 4, 90);
        x.event(1, 2, 1, 99);
        x.correct(3, 90);
        x.tick(90);
        x.correct(1, 200);
        x.event(1, 2, 5, 95);
        x.tick(100);
        x.join(7);
        x.works(0, false);
        x.promise(1, 3, 500, 0);
        x.event(1, 4, 5, 100);
        x.event(1, 1, 7, 130);
        x.event(2, 1, 0, 101);
        return x;
    }

    /** 40 customers, 60 items that ended or were promised, 200 notices, of which the last one waits. */
    private static CustomerNotices full() {
        CustomerNotices x = Check.withWishes(0, 1, 3, 5);
        for (int n = 2; n <= 40; n++) {
            x.customer(0, 0);
        }
        for (int item = 1; item <= 30; item++) {
            x.event(1, item, 6, 0);
            x.promise(1, 30 + item, 100, 0);
        }
        x.event(1, 31, 5, 0);
        Check.fillNotices(x, 199, 0);
        x.tick(0);
        x.event(1, 8000, 1, 10);
        return x;
    }

    /** Asks for all that an object can tell, and lets what it holds come out; some 150 calls. */
    private static List<Integer> told(CustomerNotices x) {
        List<Integer> answers = new ArrayList<>();
        answers.add(x.failed(0));
        answers.add(x.failed(1));
        for (int kind = 0; kind <= 7; kind++) {
            answers.add(x.event(1, 2, kind == 5 || kind == 6 ? 0 : kind, 100));
            answers.add(x.event(1, 50, kind == 5 || kind == 6 ? 0 : kind, 100));
            answers.add(x.event(2, 3, kind, 130));
        }
        answers.add(x.event(1, 61, 0, 100));
        answers.add(x.promise(1, 3, 501, 1));
        answers.add(x.promise(1, 31, 101, 1));
        answers.add(x.promise(1, 61, 500, 1000000));
        for (long t : new long[] {100, 106, 107, 108, 137, 207, 1060, 1700}) {
            answers.add(x.tick(t));
        }
        for (int i = 0; i < 6; i++) {
            for (int what = 0; what <= 8; what++) {
                answers.add(x.sent(i, what));
            }
        }
        for (int notice = 1; notice <= 10; notice++) {
            answers.add(x.correct(notice, 2000));
        }
        answers.add(x.correct(200, 2000));
        for (int kind = 0; kind <= 7; kind++) {
            answers.add(x.out(1, kind));
            answers.add(x.wish(2, kind, 0, 0));
        }
        for (int channel = 0; channel <= 3; channel++) {
            answers.add(x.works(channel, true) ? 1 : 0);
        }
        answers.add(x.join(0));
        answers.add(x.customer(0, 0));
        return answers;
    }

    private static void refused(String call, Supplier<CustomerNotices> made, int want, ToIntFunction<CustomerNotices> asks) {
        CustomerNotices x = made.get();
        check.due(call, asks.applyAsInt(x), want);
        check.due(call + ", again", asks.applyAsInt(x), want);
        check.due(call + ", nothing has changed", told(x).equals(told(made.get())), true);
    }

    private static void outside(String call, ToIntFunction<CustomerNotices> asks) {
        refused(call, BoundaryRefusedTest::busy, Check.OUTSIDE, asks);
    }

    private static void unknown(String call, ToIntFunction<CustomerNotices> asks) {
        refused(call, BoundaryRefusedTest::busy, Check.UNKNOWN, asks);
    }

    private static void noRoom(String call, ToIntFunction<CustomerNotices> asks) {
        refused(call, BoundaryRefusedTest::full, Check.ROOM, asks);
    }

    private static void customersAreRefused() {
        outside("customer(-1, 0)", x -> x.customer(-1, 0));
        outside("customer(10, 0)", x -> x.customer(10, 0));
        outside("customer(0, -13)", x -> x.customer(0, -13));
        outside("customer(0, 15)", x -> x.customer(0, 15));
    }

    private static void wishesAreRefused() {
        unknown("wish(0, 2, 0, 0)", x -> x.wish(0, 2, 0, 0));
        unknown("wish(3, 2, 0, 0)", x -> x.wish(3, 2, 0, 0));
        outside("wish(2, -1, 0, 0)", x -> x.wish(2, -1, 0, 0));
        outside("wish(2, 8, 0, 0)", x -> x.wish(2, 8, 0, 0));
        outside("wish(2, 0, -1, 0)", x -> x.wish(2, 0, -1, 0));
        outside("wish(2, 0, 4, 0)", x -> x.wish(2, 0, 4, 0));
        outside("wish(2, 0, 2, -1)", x -> x.wish(2, 0, 2, -1));
        outside("wish(2, 0, 2, 10)", x -> x.wish(2, 0, 2, 10));
    }

    private static void quietHoursAreRefused() {
        unknown("quiet(0, 0, 0)", x -> x.quiet(0, 0, 0));
        unknown("quiet(3, 0, 0)", x -> x.quiet(3, 0, 0));
        outside("quiet(2, -1, 0)", x -> x.quiet(2, -1, 0));
        outside("quiet(2, 1440, 0)", x -> x.quiet(2, 1440, 0));
        outside("quiet(2, 0, -1)", x -> x.quiet(2, 0, -1));
        outside("quiet(2, 0, 1440)", x -> x.quiet(2, 0, 1440));
    }

    private static void eventsAreRefused() {
        unknown("event(0, 50, 5, 100)", x -> x.event(0, 50, 5, 100));
        unknown("event(3, 50, 5, 100)", x -> x.event(3, 50, 5, 100));
        outside("event(1, 0, 5, 100)", x -> x.event(1, 0, 5, 100));
        outside("event(1, 10000, 5, 100)", x -> x.event(1, 10000, 5, 100));
        outside("event(1, 50, -1, 100)", x -> x.event(1, 50, -1, 100));
        outside("event(1, 50, 8, 100)", x -> x.event(1, 50, 8, 100));
        outside("event(1, 50, 5, 99)", x -> x.event(1, 50, 5, 99));
        outside("event(1, 50, 6, LATE)", x -> x.event(1, 50, 6, LATE));
    }

    private static void promisesAreRefused() {
        unknown("promise(0, 3, 900, 0)", x -> x.promise(0, 3, 900, 0));
        unknown("promise(3, 3, 900, 0)", x -> x.promise(3, 3, 900, 0));
        outside("promise(1, 0, 900, 0)", x -> x.promise(1, 0, 900, 0));
        outside("promise(1, 10000, 900, 0)", x -> x.promise(1, 10000, 900, 0));
        outside("promise(1, 3, -1, 0)", x -> x.promise(1, 3, -1, 0));
        outside("promise(1, 3, LATE, 0)", x -> x.promise(1, 3, LATE, 0));
        outside("promise(1, 3, 900, -1)", x -> x.promise(1, 3, 900, -1));
        outside("promise(1, 3, 900, 1000001)", x -> x.promise(1, 3, 900, 1000001));
        outside("promise(1, 61, -1, 0)", x -> x.promise(1, 61, -1, 0));
    }

    private static void ticksAreRefused() {
        outside("tick(99)", x -> x.tick(99));
        outside("tick(-1)", x -> x.tick(-1));
        outside("tick(LATE)", x -> x.tick(LATE));
    }

    private static void readingIsRefused() {
        outside("sent(0, -1)", x -> x.sent(0, -1));
        outside("sent(0, 9)", x -> x.sent(0, 9));
    }

    private static void outIsRefused() {
        unknown("out(0, 0)", x -> x.out(0, 0));
        unknown("out(3, 0)", x -> x.out(3, 0));
        outside("out(1, -1)", x -> x.out(1, -1));
        outside("out(1, 8)", x -> x.out(1, 8));
    }

    private static void correctionsAreRefused() {
        unknown("correct(0, 100)", x -> x.correct(0, 100));
        unknown("correct(10, 100)", x -> x.correct(10, 100));
        outside("correct(5, 99), an end that was sent", x -> x.correct(5, 99));
        outside("correct(7, 99), an end that waits", x -> x.correct(7, 99));
        outside("correct(7, LATE), an end that waits", x -> x.correct(7, LATE));
        for (int notice = 1; notice <= 4; notice++) {
            int number = notice;
            refused("correct(" + number + ", 100)", BoundaryRefusedTest::busy, Check.STATE, x -> x.correct(number, 100));
        }
    }

    private static void joinIsRefused() {
        outside("join(-1)", x -> x.join(-1));
        outside("join(1441)", x -> x.join(1441));
    }

    private static void roomIsRefused() {
        noRoom("customer(0, 0), the 41st", x -> x.customer(0, 0));
        noRoom("event(1, 8000, 0, 50), the 201st notice", x -> x.event(1, 8000, 0, 50));
        noRoom("event(1, 60, 5, 50), an end for want of a notice", x -> x.event(1, 60, 5, 50));
        noRoom("event(1, 61, 6, 50), an end of the 61st item", x -> x.event(1, 61, 6, 50));
        noRoom("promise(1, 61, 500, 0), the 61st item", x -> x.promise(1, 61, 500, 0));
        noRoom("promise(1, 60, 500, 0), the 201st notice", x -> x.promise(1, 60, 500, 0));
        noRoom("correct(1, 50), a promise", x -> x.correct(1, 50));
        noRoom("correct(31, 50), an end", x -> x.correct(31, 50));
    }

    /** works() has no refusals; of a channel that is not there it must not change another one. */
    private static void channelsThatAreNotThere() {
        for (int channel : new int[] {-1, 4, Integer.MIN_VALUE, Integer.MAX_VALUE}) {
            for (boolean on : new boolean[] {false, true}) {
                refused("works(" + channel + ", " + on + ")", BoundaryRefusedTest::busy, 0,
                    x -> x.works(channel, on) ? 1 : 0);
            }
        }
    }
}
