/** Promise 12: correct. */
public final class Promise12CorrectTest {
    private static final Check check = new Check();

    public static void main(String[] args) {
        refusals();
        oneThatWaits();
        oneThatWasSent();
        oneOfWhichTheWishesAreGone();
        ends();
        markedAndCodes();
        room();
        check.end();
    }

    private static void refusals() {
        CustomerNotices x = Check.withWishes(0, 4);
        check.due("nothing", x.correct(1, 0), Check.UNKNOWN);
        x.tick(10);
        x.event(1, 1, 4, 10);
        x.tick(10);
        check.due("notice 0", x.correct(0, 10), Check.UNKNOWN);
        check.due("notice 2", x.correct(2, 10), Check.UNKNOWN);
        check.due("extremes", x.correct(Integer.MIN_VALUE, 10), Check.UNKNOWN);
        check.due("extremes", x.correct(Integer.MAX_VALUE, 10), Check.UNKNOWN);
        check.due("unknown before outside", x.correct(2, 9), Check.UNKNOWN);
        check.due("below the clock", x.correct(1, 9), Check.OUTSIDE);
        check.due("above 10^9", x.correct(1, 1000000001L), Check.OUTSIDE);
        check.due("it failed", x.correct(1, 10), Check.STATE);
        x.event(1, 1, 0, 10);
        check.due("outside, while it waits", x.correct(2, 9), Check.OUTSIDE);
        check.due("it waits still", x.out(1, 0), 1);
        check.due("it was dropped", x.correct(2, 10), Check.STATE);
    }

    private static void oneThatWaits() {
        CustomerNotices x = Check.withWishes(0);
        x.event(1, 1, 0, 0);
        check.due("dropped", x.correct(1, 5), 0);
        check.due("again", x.correct(1, 5), Check.STATE);
        check.due("none is sent", x.tick(10), 0);
        check.due("none failed", x.failed(0), -1);
        check.due("the next number", x.event(1, 1, 0, 10), 2);
    }

    private static void oneThatWasSent() {
        CustomerNotices x = new CustomerNotices();
        x.customer(2, 0);
        x.wish(1, 1, 3, 0);
        x.event(1, 77, 1, 0);
        x.tick(0);
        check.due("correction", x.correct(1, 20), 2);
        check.due("it was corrected", x.correct(1, 20), Check.STATE);
        check.due("is a correction that waits", x.correct(2, 20), Check.STATE);
        check.due("not before its time", x.tick(19), 0);
        check.due("its time", x.tick(20), 1);
        check.dueSent(x, 1, 2, 1, 77, 1, 3, 67, 2, 20, -1);
        check.due("is a correction that was sent", x.correct(2, 20), Check.STATE);
        check.due("the first one's text is as it was", x.sent(0, 5), 66);
    }

    private static void oneOfWhichTheWishesAreGone() {
        CustomerNotices x = Check.withWishes(0);
        x.event(1, 1, 0, 0);
        x.tick(0);
        x.out(1, 0);
        check.due("none comes of it", x.correct(1, 0), 0);
        x.wish(1, 0, 0, 0);
        check.due("it was corrected", x.correct(1, 0), Check.STATE);
        check.due("the next number", x.event(1, 1, 0, 0), 2);
    }

    private static void ends() {
        CustomerNotices x = Check.withWishes(0, 5, 6);
        x.event(1, 1, 5, 0);
        x.tick(0);
        check.due("correction of an end", x.correct(1, 5), 2);
        check.due("the item has not ended any more", x.event(1, 1, 0, 0), 3);
        check.due("another end", x.event(1, 1, 6, 0), 4);
        check.due("the item ended", x.event(1, 1, 0, 0), 0);
        check.due("corrections come, though it ended", x.tick(5), 3);
        check.due("of an event before the end", x.correct(3, 5), 5);
        check.due("which is no end", x.event(1, 1, 0, 5), 0);
        check.due("the correction is sent", x.tick(5), 1);
        check.due("an end is told", x.event(1, 2, 5, 5), 6);
        check.due("while it waits it is dropped", x.correct(6, 5), 0);
        check.due("so the item has not ended", x.event(1, 2, 0, 5), 7);
        check.due("the other item has", x.event(1, 1, 0, 5), 0);
        x.out(1, 6);
        check.due("an end without wishes", x.correct(4, 5), 0);
        check.due("the item has not ended any more", x.event(1, 1, 0, 5), 8);
        x.event(1, 3, 5, 5);
        check.due("refused", x.correct(9, 4), Check.OUTSIDE);
        check.due("so it ended", x.event(1, 3, 0, 5), 0);
    }

    private static void markedAndCodes() {
        CustomerNotices x = Check.withWishes(7);
        x.wish(1, 4, 0, 5);
        x.wish(1, 4, 1, 0);
        x.quiet(1, 10, 20);
        x.event(1, 1, 7, 0);
        x.event(1, 1, 4, 0);
        x.tick(0);
        check.due("of a marked one", x.correct(1, 10), 3);
        check.due("of a code", x.correct(2, 10), 4);
        check.due("a correction of a marked one is marked", x.tick(10), 1);
        check.due("text", x.sent(2, 5), 15);
        check.due("the other one", x.tick(20), 1);
        check.due("by the safe channel", x.sent(3, 4), 0);
    }

    private static void room() {
        CustomerNotices x = Check.withWishes(0, 1, 5);
        x.event(1, 1, 5, 0);
        x.event(1, 2, 1, 0);
        x.tick(0);
        Check.fillNotices(x, 199, 0);
        check.due("the last one", x.event(1, 3, 0, 5), 200);
        check.due("no room", x.correct(1, 0), Check.ROOM);
        check.due("nothing has changed: the item ended", x.event(1, 1, 0, 0), 0);
        check.due("nothing has changed: not corrected", x.correct(1, 0), Check.ROOM);
        check.due("outside before room", x.correct(1, -1), Check.OUTSIDE);
        check.due("one that waits needs no room", x.correct(200, 5), 0);
        check.due("state before room", x.correct(200, 5), Check.STATE);
        x.out(1, 1);
        check.due("without wishes none is needed", x.correct(2, 0), 0);
    }
}
