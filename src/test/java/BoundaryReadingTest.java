/** The boundary cases of promises 8, 9, 11 and 13: sent, works, failed, join. */
public final class BoundaryReadingTest {
    private static final Check check = new Check();
    private static final int[] EXTREMES = {Integer.MIN_VALUE, Integer.MIN_VALUE + 1, -1000000, 1000000, Integer.MAX_VALUE};

    public static void main(String[] args) {
        sentInTheirOrder();
        sentPromisedTimes();
        sentNoneSuch();
        sentOutside();
        sentAllThereCanBe();
        worksBefore();
        worksNoSuchChannel();
        failedInTheirOrder();
        failedNone();
        joinWasAnotherNumber();
        joinOutside();
        check.end();
    }

    private static void sentInTheirOrder() {
        check.says("Of what was sent, the i-th (0 first)");
        CustomerNotices x = Check.withWishes(0, 7);
        x.event(1, 9999, 0, 1000000000L);
        x.event(1, 1, 7, 0);
        x.tick(0);
        x.tick(1000000000L);
        check.dueSent(x, 0, 2, 1, 1, 7, 1, 14, 2, 0, -1);
        check.dueSent(x, 1, 1, 1, 9999, 0, 1, 0, 1, 1000000000, -1);
    }

    private static void sentPromisedTimes() {
        check.says("8 the time that it promised (-1 for others, and corrections).");
        CustomerNotices x = Check.withWishes(0, 1, 2, 3, 4, 5, 6, 7);
        x.wish(1, 4, 0, 0);
        x.promise(1, 1, 0, 0);
        x.promise(1, 2, 1000000000L, 0);
        for (int kind = 0; kind <= 7; kind++) {
            x.event(1, 3 + kind, kind, 0);
        }
        check.due("all are sent", x.tick(0), 10);
        check.due("the least", x.sent(0, 8), 0);
        check.due("the most", x.sent(1, 8), 1000000000);
        for (int i = 2; i < 10; i++) {
            check.due("another one", x.sent(i, 8), -1);
        }
        check.due("a correction", x.correct(1, 0), 11);
        x.tick(0);
        check.due("of the correction", x.sent(10, 8), -1);
        check.due("the first is as it was", x.sent(0, 8), 0);
    }

    private static void sentNoneSuch() {
        check.says("-1: there is none such.");
        CustomerNotices x = Check.withWishes(0);
        check.due("none was sent", x.sent(0, 0), -1);
        x.event(1, 1, 0, 0);
        check.due("none was sent yet", x.sent(0, 0), -1);
        x.tick(0);
        for (int what = 0; what <= 8; what++) {
            check.due("behind the last", x.sent(1, what), -1);
            check.due("before the first", x.sent(-1, what), -1);
            for (int extreme : EXTREMES) {
                check.due("" + extreme, x.sent(extreme, what), -1);
            }
        }
        check.due("the only one", x.sent(0, 0), 1);
    }

    private static void sentOutside() {
        check.says("OUTSIDE (what).");
        CustomerNotices x = Check.withWishes(0);
        x.event(1, 1, 0, 0);
        x.tick(0);
        for (int i = -1; i <= 1; i++) {
            check.due("-1", x.sent(i, -1), Check.OUTSIDE);
            check.due("9", x.sent(i, 9), Check.OUTSIDE);
            for (int extreme : EXTREMES) {
                check.due("" + extreme, x.sent(i, extreme), Check.OUTSIDE);
            }
        }
        check.due("0", x.sent(0, 0), 1);
        check.due("8", x.sent(0, 8), -1);
    }

    private static void sentAllThereCanBe() {
        check.says("Of what was sent, the i-th");
        CustomerNotices x = Check.withWishes(0);
        Check.fillNotices(x, 200, 0);
        x.tick(0);
        for (int i = 0; i < 200; i++) {
            check.due("sent(" + i + ", 0)", x.sent(i, 0), 1 + i);
        }
        check.due("behind the last", x.sent(200, 0), -1);
    }

    private static void worksBefore() {
        check.says("A channel works, or does not: whether it did before.");
        for (int channel = 0; channel <= 3; channel++) {
            CustomerNotices x = new CustomerNotices();
            check.due("at first", x.works(channel, true), true);
            check.due("it did", x.works(channel, false), true);
            check.due("it did not", x.works(channel, false), false);
            for (int other = 0; other <= 3; other++) {
                check.due("another one", x.works(other, other != channel), other != channel);
            }
            check.due("it did not", x.works(channel, true), false);
            check.due("it did", x.works(channel, true), true);
        }
    }

    private static void worksNoSuchChannel() {
        check.says("False also: no such channel.");
        CustomerNotices x = new CustomerNotices();
        for (int again = 0; again < 2; again++) {
            check.due("-1", x.works(-1, true), false);
            check.due("4", x.works(4, true), false);
            for (int extreme : EXTREMES) {
                check.due("" + extreme, x.works(extreme, true), false);
            }
        }
        check.due("0", x.works(0, true), true);
        check.due("3", x.works(3, true), true);
    }

    private static void failedInTheirOrder() {
        check.says("The i-th notice that failed (0 first)");
        CustomerNotices x = Check.withWishes(0, 4);
        x.event(1, 1, 4, 5);
        x.event(1, 1, 0, 0);
        x.event(1, 1, 4, 0);
        x.tick(0);
        x.tick(5);
        check.due("first", x.failed(0), 3);
        check.due("second", x.failed(1), 1);
    }

    private static void failedNone() {
        check.says("The i-th notice that failed (0 first); -1.");
        CustomerNotices x = Check.withWishes(4);
        check.due("none failed", x.failed(0), -1);
        x.event(1, 1, 4, 0);
        check.due("none failed yet", x.failed(0), -1);
        x.tick(0);
        check.due("the only one", x.failed(0), 1);
        check.due("behind it", x.failed(1), -1);
        check.due("before it", x.failed(-1), -1);
        for (int extreme : EXTREMES) {
            check.due("" + extreme, x.failed(extreme), -1);
        }
    }

    private static void joinWasAnotherNumber() {
        check.says("JOIN is another number of minutes: what it was.");
        CustomerNotices x = Check.withWishes(0);
        check.due("at first", x.join(0), 0);
        check.due("at first", x.join(1440), 0);
        check.due("the most", x.join(1), 1440);
        check.due("another", x.join(0), 1);
        check.due("the least", x.join(1440), 0);
        x.event(1, 1, 0, 0);
        check.due("with the most, before", x.tick(1439), 0);
        check.due("with the most", x.tick(1440), 1);
        x.event(1, 1, 0, 1440);
        check.due("still", x.tick(1441), 0);
        check.due("the least, for one that waits", x.join(0), 1440);
        check.due("at once", x.tick(1441), 1);
    }

    private static void joinOutside() {
        check.says("OUTSIDE (0 .. 1440).");
        CustomerNotices x = new CustomerNotices();
        check.due("-1", x.join(-1), Check.OUTSIDE);
        check.due("1441", x.join(1441), Check.OUTSIDE);
        for (int extreme : EXTREMES) {
            check.due("" + extreme, x.join(extreme), Check.OUTSIDE);
        }
        check.due("1440", x.join(1440), 0);
        check.due("0", x.join(0), 1440);
    }
}
