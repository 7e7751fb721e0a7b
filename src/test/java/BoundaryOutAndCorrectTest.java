/** The boundary cases of promises 10 and 12: out, correct. */
public final class BoundaryOutAndCorrectTest {
    private static final Check check = new Check();
    private static final long LAST_TIME = 1000000000L;
    private static final int[] EXTREMES = {Integer.MIN_VALUE, Integer.MIN_VALUE + 1, -1000000, 1000000, Integer.MAX_VALUE};

    public static void main(String[] args) {
        outWishesAreGone();
        outHowMany();
        outUnknown();
        outOutside();
        correctOneThatWaits();
        correctOneThatWasSent();
        correctWithoutWishes();
        correctAnEnd();
        correctUnknown();
        correctOutside();
        correctOneThatFailed();
        correctOneThatWasDropped();
        correctOneThatWasCorrected();
        correctACorrection();
        correctRoom();
        correctNeedsNoRoom();
        check.end();
    }

    private static void outWishesAreGone() {
        check.says("A customer is out of a kind: all wishes for it are gone");
        for (int kind = 0; kind <= 7; kind++) {
            CustomerNotices x = Check.withWishes(0, 1, 2, 3, 4, 5, 6, 7);
            x.customer(0, 0);
            x.wish(2, kind, 0, 0);
            for (int channel = 0; channel <= 3; channel++) {
                x.wish(1, kind, channel, 9);
            }
            check.due("none waits", x.out(1, kind), 0);
            check.due("none of kind " + kind, x.event(1, 1, kind, 0), 0);
            check.due("another kind", x.event(1, 2, (kind + 1) % 8, 0), 1);
            check.due("another customer", x.event(2, 2, kind, 0), 2);
            check.due("without wishes, again", x.out(1, kind), 0);
            check.due("all four were gone", x.wish(1, kind, 2, 0), 1);
        }
    }

    private static void outHowMany() {
        check.says("and notices of it that wait are DROPPED: how many.");
        CustomerNotices x = Check.withWishes(0, 1);
        x.customer(0, 0);
        x.wish(2, 0, 0, 0);
        x.event(2, 1, 0, 9);
        x.event(1, 1, 1, 9);
        x.event(1, 1, 0, 0);
        x.tick(0);
        check.due("a correction", x.correct(3, 9), 4);
        Check.fillNotices(x, 200, 9);
        check.due("all but three", x.out(1, 0), 197);
        check.due("none waits any more", x.out(1, 0), 0);
        check.due("another kind, another customer", x.tick(9), 2);
        check.due("dropped ones did not fail", x.failed(0), -1);
        CustomerNotices y = Check.withWishes(7);
        y.event(1, 1, 7, 0);
        check.due("the first notice alone", y.out(1, 7), 1);
    }

    private static void outUnknown() {
        check.says("UNKNOWN (there is no such customer");
        CustomerNotices x = Check.withWishes(0);
        check.due("0", x.out(0, 0), Check.UNKNOWN);
        check.due("2", x.out(2, 0), Check.UNKNOWN);
        for (int extreme : EXTREMES) {
            check.due("" + extreme, x.out(extreme, 0), Check.UNKNOWN);
        }
    }

    private static void outOutside() {
        check.says("OUTSIDE (kind).");
        CustomerNotices x = Check.withWishes(0);
        check.due("-1", x.out(1, -1), Check.OUTSIDE);
        check.due("8", x.out(1, 8), Check.OUTSIDE);
        for (int extreme : EXTREMES) {
            check.due("" + extreme, x.out(1, extreme), Check.OUTSIDE);
        }
        check.due("0", x.out(1, 0), 0);
        check.due("7", x.out(1, 7), 0);
    }

    private static void correctOneThatWaits() {
        check.says("if it waits, it is dropped: 0.");
        CustomerNotices x = Check.withWishes(0);
        x.event(1, 1, 0, 0);
        x.event(1, 1, 0, 0);
        check.due("dropped", x.correct(1, LAST_TIME), 0);
        check.due("none of them waits but the other", x.tick(0), 1);
        check.due("the other", x.sent(0, 0), 2);
        check.due("none failed", x.failed(0), -1);
        check.due("none came", x.event(1, 1, 0, 0), 3);
    }

    private static void correctOneThatWasSent() {
        check.says("If it was sent, another one comes, of its kind and item, with time t and as a correction: its number;");
        for (int kind = 0; kind <= 7; kind++) {
            CustomerNotices x = Check.withWishes(kind);
            x.wish(1, kind, 0, 0);
            x.event(1, 9999, kind, 0);
            x.tick(0);
            check.due("its number", x.correct(1, 5), 2);
            check.due("before its time", x.tick(4), 0);
            check.due("at its time", x.tick(5), 1);
            check.dueSent(x, 1, 2, 1, 9999, kind, 0, 2 * kind + 1, 2, 5, -1);
        }
    }

    private static void correctWithoutWishes() {
        check.says("0 if its kind has no wishes.");
        CustomerNotices x = Check.withWishes(0, 1);
        x.event(1, 1, 0, 0);
        x.tick(0);
        x.out(1, 0);
        check.due("0", x.correct(1, 0), 0);
        check.due("none came", x.tick(0), 0);
        check.due("the next number", x.event(1, 1, 1, 0), 2);
        x.wish(1, 0, 0, 0);
        check.due("it was corrected", x.correct(1, 0), Check.STATE);
    }

    private static void correctAnEnd() {
        check.says("(Of an end: the item has not ended any more.)");
        for (int end = 5; end <= 6; end++) {
            CustomerNotices x = Check.withWishes(0, end);
            x.event(1, 1, end, 0);
            x.event(1, 2, end, 0);
            check.due("one that waits", x.correct(1, 0), 0);
            check.due("has not ended", x.event(1, 1, 0, 0), 3);
            check.due("the other has", x.event(1, 2, 0, 0), 0);
            x.tick(0);
            check.due("one that was sent", x.correct(2, 0), 4);
            check.due("has not ended", x.event(1, 2, 0, 0), 5);
            check.due("ends again", x.event(1, 2, end, 0), 6);
            check.due("has ended", x.event(1, 2, 0, 0), 0);
            x.tick(0);
            x.out(1, end);
            check.due("one without wishes", x.correct(6, 0), 0);
            check.due("has not ended", x.event(1, 2, 0, 0), 7);
        }
    }

    private static void correctUnknown() {
        check.says("UNKNOWN (there is no such .. notice)");
        CustomerNotices x = Check.withWishes(0);
        check.due("none at all", x.correct(1, 0), Check.UNKNOWN);
        x.event(1, 1, 0, 0);
        check.due("0", x.correct(0, 0), Check.UNKNOWN);
        check.due("2", x.correct(2, 0), Check.UNKNOWN);
        for (int extreme : EXTREMES) {
            check.due("" + extreme, x.correct(extreme, 0), Check.UNKNOWN);
        }
        check.due("1", x.correct(1, 0), 0);
        Check.fillNotices(x, 200, 0);
        check.due("201", x.correct(201, 0), Check.UNKNOWN);
        check.due("200", x.correct(200, 0), 0);
    }

    private static void correctOutside() {
        check.says("OUTSIDE (t as with event())");
        CustomerNotices x = Check.withWishes(0);
        x.event(1, 1, 0, 0);
        x.event(1, 1, 0, 0);
        x.tick(100);
        x.event(1, 1, 0, 100);
        for (int notice = 1; notice <= 3; notice++) {
            check.due("99", x.correct(notice, 99), Check.OUTSIDE);
            check.due("10^9 and 1", x.correct(notice, LAST_TIME + 1), Check.OUTSIDE);
            check.due("beyond an int", x.correct(notice, (1L << 32) + 100), Check.OUTSIDE);
            check.due("least of all", x.correct(notice, Long.MIN_VALUE), Check.OUTSIDE);
            check.due("most of all", x.correct(notice, Long.MAX_VALUE), Check.OUTSIDE);
        }
        check.due("100", x.correct(1, 100), 4);
        check.due("10^9", x.correct(2, LAST_TIME), 5);
        check.due("100, of one that waits", x.correct(3, 100), 0);
    }

    private static void correctOneThatFailed() {
        check.says("STATE (it failed,");
        CustomerNotices x = Check.withWishes(4);
        x.event(1, 1, 4, 0);
        x.tick(0);
        check.due("it failed", x.failed(0), 1);
        check.due("state", x.correct(1, 0), Check.STATE);
    }

    private static void correctOneThatWasDropped() {
        check.says("was dropped,");
        CustomerNotices x = Check.withWishes(0);
        x.event(1, 1, 0, 0);
        x.event(1, 1, 0, 0);
        check.due("by correct()", x.correct(1, 0), 0);
        check.due("state", x.correct(1, 0), Check.STATE);
        check.due("by out()", x.out(1, 0), 1);
        check.due("state", x.correct(2, 0), Check.STATE);
    }

    private static void correctOneThatWasCorrected() {
        check.says("was corrected,");
        CustomerNotices x = Check.withWishes(0);
        x.event(1, 1, 0, 0);
        x.tick(0);
        check.due("corrected", x.correct(1, 0), 2);
        check.due("state", x.correct(1, 0), Check.STATE);
        check.due("the correction is dropped", x.out(1, 0), 1);
        check.due("state, still", x.correct(1, 0), Check.STATE);
    }

    private static void correctACorrection() {
        check.says("or is a correction)");
        CustomerNotices x = Check.withWishes(0);
        x.event(1, 1, 0, 0);
        x.tick(0);
        x.correct(1, 5);
        check.due("one that waits", x.correct(2, 5), Check.STATE);
        check.due("it waits still", x.tick(5), 1);
        check.due("one that was sent", x.correct(2, 5), Check.STATE);
    }

    private static void correctRoom() {
        check.says("ROOM.");
        CustomerNotices x = Check.withWishes(0, 5);
        x.event(1, 1, 5, 0);
        Check.fillNotices(x, 199, 0);
        x.tick(0);
        check.due("the 200th", x.correct(199, 0), 200);
        check.due("the 201st", x.correct(198, 0), Check.ROOM);
        check.due("the 201st, of an end", x.correct(1, 0), Check.ROOM);
        check.due("the item has ended", x.event(1, 1, 0, 0), 0);
    }

    private static void correctNeedsNoRoom() {
        check.says("if it waits, it is dropped: 0. .. 0 if its kind has no wishes. .. ROOM.");
        CustomerNotices x = Check.withWishes(0, 1);
        x.event(1, 1, 1, 0);
        x.tick(0);
        Check.fillNotices(x, 200, 0);
        check.due("of one that waits none comes", x.correct(200, 0), 0);
        x.out(1, 1);
        check.due("without wishes none comes", x.correct(1, 0), 0);
    }
}
