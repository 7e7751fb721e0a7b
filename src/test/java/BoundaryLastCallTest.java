/** "An object is used for at most 512 calls": with all that it can hold, the last one still answers as it must. */
public final class BoundaryLastCallTest {
    private static final Check check = new Check();

    public static void main(String[] args) {
        check.says("An object is used for at most 512 calls after it has been made");
        aFullObject();
        nothingButTicks();
        nothingButRefusals();
        check.end();
    }

    private static void aFullObject() {
        CustomerNotices x = new CustomerNotices();
        for (int n = 1; n <= 40; n++) {
            check.due("customer", x.customer(n % 10, n % 27 - 12), n);
            check.due("wish", x.wish(n, n % 2 == 0 ? 0 : 3, 1, 0), 1);
        }
        for (int n = 1; n <= 60; n++) {
            check.due("promise", x.promise(2 * (n % 20) + 1, n, n, 0), n);
        }
        for (int n = 61; n <= 200; n++) {
            check.due("event", x.event(2 * (n % 20) + 2, n, 0, 0), n);
        }
        check.due("no customer more", x.customer(0, 0), Check.ROOM);
        check.due("no notice more", x.event(2, 1, 0, 0), Check.ROOM);
        check.due("no item more", x.event(2, 1, 5, 0), Check.ROOM);
        int calls = 40 + 40 + 60 + 140 + 3;
        for (; calls < 510; calls++) {
            check.due("nothing has changed", x.join(0), 0);
        }
        check.due("the 511th", x.tick(1000000000L), 200);
        check.due("the 512th", x.sent(199, 0), 200);
    }

    private static void nothingButTicks() {
        CustomerNotices x = Check.withWishes(0);
        check.due("the third", x.event(1, 1, 0, 509), 1);
        for (int calls = 3; calls < 511; calls++) {
            check.due("tick", x.tick(calls - 3), 0);
        }
        check.due("the 512th", x.tick(509), 1);
    }

    private static void nothingButRefusals() {
        CustomerNotices x = new CustomerNotices();
        for (int calls = 0; calls < 510; calls++) {
            check.due("refused", x.customer(10, calls), Check.OUTSIDE);
        }
        check.due("the 511th", x.customer(0, 0), 1);
        check.due("the 512th", x.wish(1, 0, 0, 0), 1);
    }
}
