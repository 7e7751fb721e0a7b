/** Promise 9: works. */
public final class Promise09WorksTest {
    public static void main(String[] args) {
        Check check = new Check();
        CustomerNotices x = Check.withWishes(0);
        for (int channel = 0; channel < 4; channel++) {
            check.due("works at first", x.works(channel, false), true);
            check.due("does not", x.works(channel, false), false);
        }
        x.works(0, true);
        x.works(2, true);
        x.event(1, 1, 0, 0);
        check.due("the wished one does not", x.tick(0), 0);
        check.due("so it failed", x.failed(0), 1);
        check.due("it did not", x.works(1, true), false);
        check.due("one that failed is not tried again", x.tick(0), 0);
        x.event(1, 1, 0, 0);
        check.due("it does", x.tick(0), 1);
        check.due("it did", x.works(1, true), true);
        check.due("channel -1", x.works(-1, true), false);
        check.due("channel -1, still", x.works(-1, true), false);
        check.due("channel 4", x.works(4, true), false);
        check.due("channel 4, still", x.works(4, true), false);
        check.due("extremes", x.works(Integer.MAX_VALUE, true), false);
        check.due("extremes", x.works(Integer.MIN_VALUE, false), false);
        check.end();
    }
}
