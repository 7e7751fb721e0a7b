import java.util.ArrayList;

/** Notices to a post's customers; ../shared/DOC.md says what each call promises. */
public final class CustomerNotices {
    public static final int UNKNOWN = -11, OUTSIDE = -12, STATE = -13, ROOM = -14;

    private static final int NONE = -1;

    private static final int MAX_CUSTOMERS = 40;
    private static final int MAX_NOTICES = 200;
    private static final int MAX_ITEMS = 60;

    private static final int LAST_LANGUAGE = 9;
    private static final int FIRST_ZONE = -12;
    private static final int LAST_ZONE = 14;
    private static final int LAST_ORDER = 9;
    private static final int LAST_ITEM_NUMBER = 9999;
    private static final int LAST_DETAIL = 8;
    private static final int MINUTES_A_DAY = 1440;
    private static final int MINUTES_A_ZONE = 60;
    private static final long LAST_TIME = 1000000000L;
    private static final long LAST_BOUND = 1000000L;

    private static final int KINDS = 8;
    private static final int KIND_PROMISED = 3;
    private static final int KIND_CODE = 4;
    private static final int KIND_FIRST_END = 5;
    private static final int KIND_SECOND_END = 6;
    private static final int KIND_MARKED = 7;

    private static final int CHANNELS = 4;
    private static final int CHANNEL_SAFE = 0;

    private static final int IS_WAITING = 0;
    private static final int IS_SENT = 1;
    private static final int IS_FAILED = 2;
    private static final int IS_DROPPED = 3;

    private final ArrayList<Customer> customers;
    private final ArrayList<Notice> notices;
    private final ArrayList<Item> items;
    private final ArrayList<Notice> sentNotices;
    private final ArrayList<Notice> failedNotices;
    private final boolean[] channelWorks;
    private long clock;
    private int joinMinutes;

    public CustomerNotices() {
        customers = new ArrayList<>();
        notices = new ArrayList<>();
        items = new ArrayList<>();
        sentNotices = new ArrayList<>();
        failedNotices = new ArrayList<>();
        channelWorks = new boolean[CHANNELS];
        for (int channel = 0; channel < CHANNELS; channel++) {
            channelWorks[channel] = true;
        }
        clock = 0;
        joinMinutes = 0;
    }

    public int customer(int language, int zone) {
        if (!isWithin(language, 0, LAST_LANGUAGE) || !isWithin(zone, FIRST_ZONE, LAST_ZONE)) {
            return OUTSIDE;
        }
        if (customers.size() >= MAX_CUSTOMERS) {
            return ROOM;
        }
        int number = customers.size() + 1;
        customers.add(new Customer(number, language, zone));
        return number;
    }

    public int wish(int customer, int kind, int channel, int order) {
        Customer who = findCustomer(customer);
        if (who == null) {
            return UNKNOWN;
        }
        if (!isKind(kind) || !isChannel(channel) || !isWithin(order, 0, LAST_ORDER)) {
            return OUTSIDE;
        }
        who.setOrder(kind, channel, order);
        return who.countWishes(kind);
    }

    public int quiet(int customer, int from, int until) {
        Customer who = findCustomer(customer);
        if (who == null) {
            return UNKNOWN;
        }
        if (!isMinuteOfDay(from) || !isMinuteOfDay(until)) {
            return OUTSIDE;
        }
        who.quietFrom = from;
        who.quietUntil = until;
        return Math.floorMod(until - from, MINUTES_A_DAY);
    }

    public int event(int customer, int item, int kind, long t) {
        Customer who = findCustomer(customer);
        if (who == null) {
            return UNKNOWN;
        }
        if (!isItemNumber(item) || !isKind(kind) || !isTimeFromNow(t)) {
            return OUTSIDE;
        }
        Item known = findItem(customer, item);
        if (known != null && known.ended) {
            return 0;
        }
        boolean comes = who.countWishes(kind) > 0;
        boolean keepsItem = isEnd(kind) && known == null;
        if ((comes && noticesAreFull()) || (keepsItem && itemsAreFull())) {
            return ROOM;
        }
        if (isEnd(kind)) {
            Item kept = known == null ? addItem(customer, item) : known;
            kept.ended = true;
        }
        return comes ? addNotice(who, item, kind, t).number : 0;
    }

    public int promise(int customer, int item, long when, long bound) {
        Customer who = findCustomer(customer);
        if (who == null) {
            return UNKNOWN;
        }
        if (!isItemNumber(item) || !isWithin(when, 0, LAST_TIME) || !isWithin(bound, 0, LAST_BOUND)) {
            return OUTSIDE;
        }
        Item known = findItem(customer, item);
        if (who.countWishes(KIND_PROMISED) == 0 || (known != null && known.ended)) {
            return 0;
        }
        Notice latest = known == null ? null : known.latestPromise;
        if (latest == null) {
            return addPromise(who, item, known, when);
        }
        if (Math.abs(when - latest.promisedTime) <= bound) {
            return 0;
        }
        if (latest.state == IS_WAITING) {
            latest.promisedTime = when;
            return latest.number;
        }
        return addPromise(who, item, known, when);
    }

    public int tick(long t) {
        if (!isTimeFromNow(t)) {
            return OUTSIDE;
        }
        clock = t;
        prepareCustomersForTick();
        int sentBefore = sentNotices.size();
        for (int i = 0; i < notices.size(); i++) {
            Notice notice = notices.get(i);
            if (notice.state == IS_WAITING && isDue(notice) && !isHeldByQuiet(notice)) {
                deliver(notice);
            }
        }
        return sentNotices.size() - sentBefore;
    }

    public int sent(int i, int what) {
        if (!isWithin(what, 0, LAST_DETAIL)) {
            return OUTSIDE;
        }
        if (i < 0 || i >= sentNotices.size()) {
            return NONE;
        }
        return detail(sentNotices.get(i), what);
    }

    public boolean works(int channel, boolean on) {
        if (!isChannel(channel)) {
            return false;
        }
        boolean before = channelWorks[channel];
        channelWorks[channel] = on;
        return before;
    }

    public int out(int customer, int kind) {
        Customer who = findCustomer(customer);
        if (who == null) {
            return UNKNOWN;
        }
        if (!isKind(kind)) {
            return OUTSIDE;
        }
        who.clearWishes(kind);
        int dropped = 0;
        for (int i = 0; i < notices.size(); i++) {
            Notice notice = notices.get(i);
            if (notice.state == IS_WAITING && notice.owner.number == customer && notice.kind == kind) {
                notice.state = IS_DROPPED;
                dropped++;
            }
        }
        return dropped;
    }

    public int failed(int i) {
        if (i < 0 || i >= failedNotices.size()) {
            return NONE;
        }
        return failedNotices.get(i).number;
    }

    public int correct(int notice, long t) {
        Notice old = findNotice(notice);
        if (old == null) {
            return UNKNOWN;
        }
        if (!isTimeFromNow(t)) {
            return OUTSIDE;
        }
        if (!old.canBeCorrected()) {
            return STATE;
        }
        boolean comes = old.state == IS_SENT && old.owner.countWishes(old.kind) > 0;
        if (comes && noticesAreFull()) {
            return ROOM;
        }
        if (isEnd(old.kind)) {
            reopenItem(old.owner.number, old.item);
        }
        if (old.state == IS_WAITING) {
            old.state = IS_DROPPED;
            return 0;
        }
        old.corrected = true;
        return comes ? addCorrection(old, t) : 0;
    }

    public int join(int minutes) {
        if (!isWithin(minutes, 0, MINUTES_A_DAY)) {
            return OUTSIDE;
        }
        int before = joinMinutes;
        joinMinutes = minutes;
        return before;
    }

    private static boolean isWithin(long value, long least, long most) {
        return value >= least && value <= most;
    }

    private static boolean isKind(int kind) {
        return isWithin(kind, 0, KINDS - 1);
    }

    private static boolean isEnd(int kind) {
        return kind == KIND_FIRST_END || kind == KIND_SECOND_END;
    }

    private static boolean isChannel(int channel) {
        return isWithin(channel, 0, CHANNELS - 1);
    }

    private static boolean isMinuteOfDay(int minute) {
        return isWithin(minute, 0, MINUTES_A_DAY - 1);
    }

    private static boolean isItemNumber(int item) {
        return isWithin(item, 1, LAST_ITEM_NUMBER);
    }

    private boolean isTimeFromNow(long t) {
        return isWithin(t, clock, LAST_TIME);
    }

    private boolean noticesAreFull() {
        return notices.size() >= MAX_NOTICES;
    }

    private boolean itemsAreFull() {
        return items.size() >= MAX_ITEMS;
    }

    private Customer findCustomer(int number) {
        if (number < 1 || number > customers.size()) {
            return null;
        }
        return customers.get(number - 1);
    }

    private Notice findNotice(int number) {
        if (number < 1 || number > notices.size()) {
            return null;
        }
        return notices.get(number - 1);
    }

    private Item findItem(int customerNumber, int itemNumber) {
        for (int i = 0; i < items.size(); i++) {
            Item item = items.get(i);
            if (item.customerNumber == customerNumber && item.itemNumber == itemNumber) {
                return item;
            }
        }
        return null;
    }

    private Item addItem(int customerNumber, int itemNumber) {
        Item item = new Item(customerNumber, itemNumber);
        items.add(item);
        return item;
    }

    /** The item keeps its row: the document counts items that ended, and never says that one is given back. */
    private void reopenItem(int customerNumber, int itemNumber) {
        Item item = findItem(customerNumber, itemNumber);
        if (item != null) {
            item.ended = false;
        }
    }

    private Notice addNotice(Customer owner, int item, int kind, long time) {
        Notice notice = new Notice(notices.size() + 1, owner, item, kind, time);
        notices.add(notice);
        return notice;
    }

    private int addPromise(Customer owner, int item, Item known, long when) {
        if (noticesAreFull() || (known == null && itemsAreFull())) {
            return ROOM;
        }
        Notice notice = addNotice(owner, item, KIND_PROMISED, clock);
        notice.promisedTime = when;
        Item kept = known == null ? addItem(owner.number, item) : known;
        kept.latestPromise = notice;
        return notice.number;
    }

    private int addCorrection(Notice old, long time) {
        Notice notice = addNotice(old.owner, old.item, old.kind, time);
        notice.isCorrection = true;
        return notice.number;
    }

    /** The least times must be those before the tick, so they are all taken before anything is sent. */
    private void prepareCustomersForTick() {
        for (int i = 0; i < customers.size(); i++) {
            Customer who = customers.get(i);
            who.leastWaitingTime = LAST_TIME;
            who.messageOfTick = 0;
        }
        for (int i = 0; i < notices.size(); i++) {
            Notice notice = notices.get(i);
            if (notice.state == IS_WAITING && !notice.isMarked()) {
                Customer who = notice.owner;
                who.leastWaitingTime = Math.min(who.leastWaitingTime, notice.time);
            }
        }
    }

    private boolean isDue(Notice notice) {
        if (notice.time > clock) {
            return false;
        }
        return notice.isMarked() || clock >= notice.owner.leastWaitingTime + joinMinutes;
    }

    private boolean isHeldByQuiet(Notice notice) {
        return !notice.isMarked() && notice.owner.isQuietAt(clock);
    }

    private void deliver(Notice notice) {
        Customer who = notice.owner;
        int channel = who.firstWorkingChannel(notice.kind, channelWorks);
        if (channel == NONE) {
            notice.state = IS_FAILED;
            failedNotices.add(notice);
            return;
        }
        if (who.messageOfTick == 0) {
            who.messageOfTick = notice.number;
        }
        notice.state = IS_SENT;
        notice.channel = channel;
        notice.message = who.messageOfTick;
        notice.sentTime = clock;
        sentNotices.add(notice);
    }

    private static int detail(Notice notice, int what) {
        switch (what) {
            case 0: return notice.number;
            case 1: return notice.owner.number;
            case 2: return notice.item;
            case 3: return notice.kind;
            case 4: return notice.channel;
            case 5: return notice.text();
            case 6: return notice.message;
            case 7: return (int) notice.sentTime;
            default: return (int) notice.promisedTime;
        }
    }

    private static final class Customer {
        final int number;
        final int language;
        final int zone;
        int quietFrom;
        int quietUntil;
        long leastWaitingTime;
        int messageOfTick;
        private final int[] orders;

        Customer(int number, int language, int zone) {
            this.number = number;
            this.language = language;
            this.zone = zone;
            orders = new int[KINDS * CHANNELS];
            for (int i = 0; i < orders.length; i++) {
                orders[i] = NONE;
            }
        }

        private int orderOf(int kind, int channel) {
            return isKind(kind) && isChannel(channel) ? orders[kind * CHANNELS + channel] : NONE;
        }

        void setOrder(int kind, int channel, int order) {
            if (isKind(kind) && isChannel(channel)) {
                orders[kind * CHANNELS + channel] = order;
            }
        }

        void clearWishes(int kind) {
            for (int channel = 0; channel < CHANNELS; channel++) {
                setOrder(kind, channel, NONE);
            }
        }

        int countWishes(int kind) {
            int count = 0;
            for (int channel = 0; channel < CHANNELS; channel++) {
                if (orderOf(kind, channel) != NONE) {
                    count++;
                }
            }
            return count;
        }

        /** Channels are gone through upwards, so that of one order the lesser channel stays the first. */
        int firstWorkingChannel(int kind, boolean[] channelWorks) {
            int lastChannel = kind == KIND_CODE ? CHANNEL_SAFE : CHANNELS - 1;
            int first = NONE;
            for (int channel = 0; channel <= lastChannel && channel < channelWorks.length; channel++) {
                int order = orderOf(kind, channel);
                if (order != NONE && channelWorks[channel] && (first == NONE || order < orderOf(kind, first))) {
                    first = channel;
                }
            }
            return first;
        }

        boolean isQuietAt(long time) {
            long local = Math.floorMod(time + MINUTES_A_ZONE * zone, (long) MINUTES_A_DAY);
            if (quietFrom <= quietUntil) {
                return local >= quietFrom && local < quietUntil;
            }
            return local >= quietFrom || local < quietUntil;
        }
    }

    /** An item of a customer that ended or was promised; of others nothing need be known. */
    private static final class Item {
        final int customerNumber;
        final int itemNumber;
        boolean ended;
        Notice latestPromise;

        Item(int customerNumber, int itemNumber) {
            this.customerNumber = customerNumber;
            this.itemNumber = itemNumber;
        }
    }

    private static final class Notice {
        final int number;
        final Customer owner;
        final int item;
        final int kind;
        final long time;
        int state;
        long promisedTime;
        boolean isCorrection;
        boolean corrected;
        int channel;
        int message;
        long sentTime;

        Notice(int number, Customer owner, int item, int kind, long time) {
            this.number = number;
            this.owner = owner;
            this.item = item;
            this.kind = kind;
            this.time = time;
            state = IS_WAITING;
            promisedTime = NONE;
        }

        boolean isMarked() {
            return kind == KIND_MARKED;
        }

        boolean canBeCorrected() {
            return (state == IS_WAITING || state == IS_SENT) && !corrected && !isCorrection;
        }

        int text() {
            return 32 * owner.language + 2 * kind + (isCorrection ? 1 : 0);
        }
    }
}
