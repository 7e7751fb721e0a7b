/** Counts the answers that are not as due, and ends a test with exit code 1 if there was one. */
final class Check {
    static final int UNKNOWN = -11, OUTSIDE = -12, STATE = -13, ROOM = -14;

    private int wrong = 0;
    private String sentence = "";

    /** The document's sentence that the checks behind this one are for: it is told with what is not as due. */
    void says(String sentence) {
        this.sentence = "'" + sentence + "': ";
    }

    void due(String call, long got, long want) {
        if (got != want) {
            wrong++;
            System.out.println(sentence + call + " answered " + got + ", due is " + want);
        }
    }

    void due(String call, boolean got, boolean want) {
        due(call, got ? 1 : 0, want ? 1 : 0);
    }

    /** The details of the i-th that was sent, 0 to 8 in their order. */
    void dueSent(CustomerNotices x, int i, long... want) {
        for (int what = 0; what < want.length; what++) {
            due("sent(" + i + ", " + what + ")", x.sent(i, what), want[what]);
        }
    }

    void end() {
        if (wrong != 0) {
            System.out.println(wrong + " answers are not as due");
            System.exit(1);
        }
    }

    /** An object with one customer of language 0 in zone 0, who wishes channel 1 for each of these kinds. */
    static CustomerNotices withWishes(int... kinds) {
        CustomerNotices x = new CustomerNotices();
        x.customer(0, 0);
        for (int kind : kinds) {
            x.wish(1, kind, 1, 0);
        }
        return x;
    }

    /** Events of kind 0 for item 9000 of customer 1 until so many notices are there. */
    static void fillNotices(CustomerNotices x, int upTo, long t) {
        int last = x.event(1, 9000, 0, t);
        while (last > 0 && last < upTo) {
            last = x.event(1, 9000, 0, t);
        }
    }
}
