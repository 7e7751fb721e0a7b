/** Promise 4: quiet. */
public final class Promise04QuietTest {
    private static final Check check = new Check();

    public static void main(String[] args) {
        answers();
        edges();
        overMidnight();
        zones();
        refusedChangesNothing();
        check.end();
    }

    private static void answers() {
        CustomerNotices x = Check.withWishes();
        check.due("none at first", x.quiet(1, 0, 0), 0);
        check.due("all but one", x.quiet(1, 0, 1439), 1439);
        check.due("one over midnight", x.quiet(1, 1439, 0), 1);
        check.due("all but one, over midnight", x.quiet(1, 1, 0), 1439);
        check.due("22 to 7", x.quiet(1, 1320, 420), 540);
        check.due("both one", x.quiet(1, 1439, 1439), 0);
        check.due("nobody", x.quiet(2, 0, 0), Check.UNKNOWN);
        check.due("unknown before outside", x.quiet(2, -1, 0), Check.UNKNOWN);
        check.due("from -1", x.quiet(1, -1, 0), Check.OUTSIDE);
        check.due("from 1440", x.quiet(1, 1440, 0), Check.OUTSIDE);
        check.due("until -1", x.quiet(1, 0, -1), Check.OUTSIDE);
        check.due("until 1440", x.quiet(1, 0, 1440), Check.OUTSIDE);
    }

    /** How many are sent at this time to one in this zone with these quiet hours. */
    private static int sentAt(int zone, int from, int until, long t) {
        CustomerNotices x = new CustomerNotices();
        x.customer(0, zone);
        x.wish(1, 0, 0, 0);
        x.quiet(1, from, until);
        x.event(1, 1, 0, 0);
        return x.tick(t);
    }

    private static void edges() {
        check.due("before", sentAt(0, 100, 200, 99), 1);
        check.due("from", sentAt(0, 100, 200, 100), 0);
        check.due("last", sentAt(0, 100, 200, 199), 0);
        check.due("until", sentAt(0, 100, 200, 200), 1);
        check.due("another day, last", sentAt(0, 100, 200, 1440 * 5 + 199), 0);
        check.due("another day, until", sentAt(0, 100, 200, 1440 * 5 + 200), 1);
        check.due("none, if both are one", sentAt(0, 100, 100, 100), 1);
    }

    private static void overMidnight() {
        check.due("before", sentAt(0, 1320, 420, 1319), 1);
        check.due("from", sentAt(0, 1320, 420, 1320), 0);
        check.due("at midnight", sentAt(0, 1320, 420, 1440), 0);
        check.due("last", sentAt(0, 1320, 420, 1440 + 419), 0);
        check.due("until", sentAt(0, 1320, 420, 1440 + 420), 1);
    }

    private static void zones() {
        check.due("zone -12, 0 is noon", sentAt(-12, 720, 721, 0), 0);
        check.due("zone -12, behind noon", sentAt(-12, 720, 721, 1), 1);
        check.due("zone 14, 0 is 14 hours", sentAt(14, 840, 841, 0), 0);
        check.due("zone 14, behind 14 hours", sentAt(14, 840, 841, 1), 1);
        check.due("zone 14, over midnight", sentAt(14, 0, 1, 600), 0);
        check.due("the last time", sentAt(14, 1000000840 % 1440, (1000000840 + 1) % 1440, 1000000000), 0);
    }

    private static void refusedChangesNothing() {
        CustomerNotices x = Check.withWishes(0);
        x.quiet(1, 0, 10);
        x.quiet(1, 20, 1440);
        x.event(1, 1, 0, 0);
        check.due("still quiet", x.tick(9), 0);
        check.due("other hours", x.quiet(1, 9, 9), 0);
        check.due("not quiet any more", x.tick(9), 1);
    }
}
