/** Promise 2: customer. */
public final class Promise02CustomerTest {
    public static void main(String[] args) {
        Check check = new Check();
        CustomerNotices x = new CustomerNotices();
        check.due("language -1", x.customer(-1, 0), Check.OUTSIDE);
        check.due("language 10", x.customer(10, 0), Check.OUTSIDE);
        check.due("zone -13", x.customer(0, -13), Check.OUTSIDE);
        check.due("zone 15", x.customer(0, 15), Check.OUTSIDE);
        check.due("extremes", x.customer(Integer.MAX_VALUE, Integer.MIN_VALUE), Check.OUTSIDE);
        check.due("least", x.customer(0, -12), 1);
        check.due("most", x.customer(9, 14), 2);
        for (int n = 3; n <= 40; n++) {
            check.due("customer " + n, x.customer(n % 10, 0), n);
        }
        check.due("the 41st", x.customer(0, 0), Check.ROOM);
        check.due("outside before room", x.customer(10, 0), Check.OUTSIDE);
        check.due("no 41st", x.wish(41, 0, 0, 0), Check.UNKNOWN);
        check.due("without wishes", x.event(40, 1, 0, 0), 0);
        check.due("first wish", x.wish(40, 0, 0, 0), 1);
        check.end();
    }
}
