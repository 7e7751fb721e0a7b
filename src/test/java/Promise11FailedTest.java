/** Promise 11: failed. */
public final class Promise11FailedTest {
    public static void main(String[] args) {
        Check check = new Check();
        CustomerNotices x = Check.withWishes(0, 4);
        check.due("none", x.failed(0), -1);
        check.due("-1", x.failed(-1), -1);
        x.event(1, 1, 0, 10);
        x.event(1, 1, 4, 0);
        x.event(1, 1, 0, 0);
        x.event(1, 1, 4, 0);
        check.due("codes without the safe channel fail", x.tick(0), 1);
        x.works(1, false);
        check.due("the channel does not work", x.tick(10), 0);
        check.due("first", x.failed(0), 2);
        check.due("second", x.failed(1), 4);
        check.due("third", x.failed(2), 1);
        check.due("behind the last", x.failed(3), -1);
        check.due("-1", x.failed(-1), -1);
        check.due("extremes", x.failed(Integer.MAX_VALUE), -1);
        check.due("extremes", x.failed(Integer.MIN_VALUE), -1);
        x.quiet(1, 0, 1000);
        x.event(1, 1, 0, 10);
        check.due("in quiet hours it waits and does not fail", x.tick(11), 0);
        check.due("so none", x.failed(3), -1);
        check.due("behind them", x.tick(1000), 0);
        check.due("it failed", x.failed(3), 5);
        check.end();
    }
}
