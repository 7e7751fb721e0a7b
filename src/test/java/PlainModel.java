import java.util.ArrayList;
import java.util.HashMap;
import java.util.List;
import java.util.Map;
import java.util.TreeMap;

/** The document's words once more, in another form: maps with text keys, for RandomRunsTest to compare. */
final class PlainModel {
    static final class N {
        int number, customer, item, kind, channel, message, sentAt;
        long time, promised = -1;
        boolean correction, corrected;
        String state = "waits";
    }

    final List<int[]> customers = new ArrayList<>();
    final Map<String, TreeMap<Integer, Integer>> wishes = new HashMap<>();
    final List<N> notices = new ArrayList<>();
    final List<N> sent = new ArrayList<>();
    final List<N> failed = new ArrayList<>();
    final Map<String, Boolean> ended = new HashMap<>();
    final Map<String, N> latest = new HashMap<>();
    final boolean[] broken = new boolean[4];
    long clock = 0;
    int join = 0;

    private static boolean in(long x, long a, long b) {
        return a <= x && x <= b;
    }

    private boolean nobody(int c) {
        return !in(c, 1, customers.size());
    }

    private TreeMap<Integer, Integer> of(int c, int kind) {
        return wishes.computeIfAbsent(c + "/" + kind, key -> new TreeMap<>());
    }

    private static String key(int c, int item) {
        return c + ":" + item;
    }

    private N more(int c, int item, int kind, long t) {
        N n = new N();
        n.number = notices.size() + 1;
        n.customer = c;
        n.item = item;
        n.kind = kind;
        n.time = t;
        notices.add(n);
        return n;
    }

    int customer(int language, int zone) {
        if (!in(language, 0, 9) || !in(zone, -12, 14)) return -12;
        if (customers.size() == 40) return -14;
        customers.add(new int[] {language, zone, 0, 0});
        return customers.size();
    }

    int wish(int c, int kind, int channel, int order) {
        if (nobody(c)) return -11;
        if (!in(kind, 0, 7) || !in(channel, 0, 3) || !in(order, 0, 9)) return -12;
        of(c, kind).put(channel, order);
        return of(c, kind).size();
    }

    int quiet(int c, int from, int until) {
        if (nobody(c)) return -11;
        if (!in(from, 0, 1439) || !in(until, 0, 1439)) return -12;
        customers.get(c - 1)[2] = from;
        customers.get(c - 1)[3] = until;
        int minutes = 0;
        for (int m = from; m != until; m = (m + 1) % 1440) minutes++;
        return minutes;
    }

    int event(int c, int item, int kind, long t) {
        if (nobody(c)) return -11;
        if (!in(item, 1, 9999) || !in(kind, 0, 7) || !in(t, clock, 1000000000)) return -12;
        if (ended.getOrDefault(key(c, item), false)) return 0;
        boolean end = kind == 5 || kind == 6;
        boolean wished = !of(c, kind).isEmpty();
        if (wished && notices.size() == 200) return -14;
        if (end && !ended.containsKey(key(c, item)) && ended.size() == 60) return -14;
        if (end) ended.put(key(c, item), true);
        return wished ? more(c, item, kind, t).number : 0;
    }

    int promise(int c, int item, long when, long bound) {
        if (nobody(c)) return -11;
        if (!in(item, 1, 9999) || !in(when, 0, 1000000000) || !in(bound, 0, 1000000)) return -12;
        String key = key(c, item);
        if (of(c, 3).isEmpty() || ended.getOrDefault(key, false)) return 0;
        N last = latest.get(key);
        if (last != null && in(when, last.promised - bound, last.promised + bound)) return 0;
        if (last == null || !last.state.equals("waits")) {
            if (notices.size() == 200 || (!ended.containsKey(key) && ended.size() == 60)) return -14;
            ended.putIfAbsent(key, false);
            last = more(c, item, 3, clock);
            latest.put(key, last);
        }
        last.promised = when;
        return last.number;
    }

    private boolean quietNow(int c) {
        int[] who = customers.get(c - 1);
        long local = (clock + 60L * who[1] + 1440) % 1440;
        for (int m = who[2]; m != who[3]; m = (m + 1) % 1440) {
            if (m == local) return true;
        }
        return false;
    }

    private int channel(N n) {
        for (int order = 0; order <= 9; order++) {
            for (Map.Entry<Integer, Integer> wish : of(n.customer, n.kind).entrySet()) {
                boolean may = n.kind != 4 || wish.getKey() == 0;
                if (may && wish.getValue() == order && !broken[wish.getKey()]) return wish.getKey();
            }
        }
        return -1;
    }

    int tick(long t) {
        if (!in(t, clock, 1000000000)) return -12;
        clock = t;
        Map<Integer, Long> least = new HashMap<>();
        for (N n : notices) {
            if (n.state.equals("waits") && n.kind != 7) least.merge(n.customer, n.time, Math::min);
        }
        Map<Integer, Integer> message = new HashMap<>();
        int count = 0;
        for (N n : notices) {
            if (!n.state.equals("waits") || n.time > clock) continue;
            if (n.kind != 7 && (clock < least.get(n.customer) + join || quietNow(n.customer))) continue;
            n.channel = channel(n);
            n.state = n.channel < 0 ? "failed" : "sent";
            if (n.channel < 0) {
                failed.add(n);
                continue;
            }
            n.message = message.computeIfAbsent(n.customer, c -> n.number);
            n.sentAt = (int) clock;
            sent.add(n);
            count++;
        }
        return count;
    }

    int sent(int i, int what) {
        if (!in(what, 0, 8)) return -12;
        if (!in(i, 0, sent.size() - 1)) return -1;
        N n = sent.get(i);
        int text = (customers.get(n.customer - 1)[0] << 5) + n.kind + n.kind + (n.correction ? 1 : 0);
        return new int[] {n.number, n.customer, n.item, n.kind, n.channel, text, n.message, n.sentAt,
            (int) n.promised}[what];
    }

    boolean works(int channel, boolean on) {
        if (!in(channel, 0, 3)) return false;
        boolean was = !broken[channel];
        broken[channel] = !on;
        return was;
    }

    int out(int c, int kind) {
        if (nobody(c)) return -11;
        if (!in(kind, 0, 7)) return -12;
        of(c, kind).clear();
        int count = 0;
        for (N n : notices) {
            if (n.customer == c && n.kind == kind && n.state.equals("waits")) {
                n.state = "dropped";
                count++;
            }
        }
        return count;
    }

    int failed(int i) {
        return in(i, 0, failed.size() - 1) ? failed.get(i).number : -1;
    }

    int correct(int notice, long t) {
        if (!in(notice, 1, notices.size())) return -11;
        if (!in(t, clock, 1000000000)) return -12;
        N n = notices.get(notice - 1);
        boolean waits = n.state.equals("waits");
        if (n.correction || n.corrected || !(waits || n.state.equals("sent"))) return -13;
        boolean comes = !waits && !of(n.customer, n.kind).isEmpty();
        if (comes && notices.size() == 200) return -14;
        if (n.kind == 5 || n.kind == 6) ended.put(key(n.customer, n.item), false);
        if (waits) n.state = "dropped";
        n.corrected = true;
        if (!comes) return 0;
        N another = more(n.customer, n.item, n.kind, t);
        another.correction = true;
        return another.number;
    }

    int join(int minutes) {
        if (!in(minutes, 0, 1440)) return -12;
        int was = join;
        join = minutes;
        return was;
    }
}
