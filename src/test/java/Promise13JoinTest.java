/** Promise 13: join. */
public final class Promise13JoinTest {
    public static void main(String[] args) {
        Check check = new Check();
        CustomerNotices x = Check.withWishes(0);
        check.due("0 at first", x.join(1440), 0);
        check.due("-1", x.join(-1), Check.OUTSIDE);
        check.due("1441", x.join(1441), Check.OUTSIDE);
        check.due("extremes", x.join(Integer.MIN_VALUE), Check.OUTSIDE);
        check.due("extremes", x.join(Integer.MAX_VALUE), Check.OUTSIDE);
        x.event(1, 1, 0, 3);
        check.due("before", x.tick(1442), 0);
        check.due("behind", x.tick(1443), 1);
        check.due("what it was", x.join(7), 1440);
        x.event(1, 1, 0, 1443);
        check.due("before", x.tick(1449), 0);
        check.due("what it was", x.join(6), 7);
        check.due("another number for those that wait", x.tick(1449), 1);
        check.due("the least", x.join(0), 6);
        x.event(1, 1, 0, 1449);
        check.due("at once", x.tick(1449), 1);

        x.join(1440);
        x.event(1, 1, 0, 1000000000L);
        check.due("beyond the last time", x.tick(1000000000L), 0);
        check.due("what it was", x.join(0), 1440);
        check.due("then at once", x.tick(1000000000L), 1);
        check.end();
    }
}
