import java.util.ArrayList;
import java.util.List;
import java.util.regex.Matcher;
import java.util.regex.Pattern;

/**
 * Long runs of calls, each answer compared with that of a second, slower model that shares no code with the class:
 * it keeps all changes and all words in lists, and reads the text by a regular expression.
 */
public final class ModelTest {
    private static final int RUNS = 400;
    private static final int CALLS = 512;
    private static final String LETTERS = "aabbbrkd....=,,,,0123456789abcdefgAF :";
    private static int wrong = 0;
    private static long seed = 20261119;

    /** A fixed sequence of numbers, so that each run of the test makes the same calls. */
    private static int draw(int bound) {
        seed = seed * 6364136223846793005L + 1442695040888963407L;
        return (int) ((seed >>> 33) % bound);
    }

    /** Mostly in the range, now and then just outside of it. */
    private static int near(int least, int most) {
        switch (draw(30)) {
            case 0: return least - 1;
            case 1: return most + 1;
            case 2: return least;
            case 3: return most;
            default: return least + draw(most - least + 1);
        }
    }

    public static void main(String[] args) {
        for (int run = 0; run < RUNS && wrong < 10; run++) {
            oneRun(run);
        }
        longSettledRuns();
        if (wrong != 0) {
            System.out.println("ModelTest: " + wrong + " answers differ");
            System.exit(1);
        }
        System.out.println("ModelTest: all answers agree");
    }

    private static void oneRun(int run) {
        FourPhases x = new FourPhases();
        Model m = new Model();
        StringBuilder trace = new StringBuilder();
        int style = run % 4;
        for (int call = 0; call < CALLS; call++) {
            int before = wrong;
            step(x, m, trace, style);
            if (wrong == before) {
                look(x, m, trace);
            }
            if (wrong != before) {
                System.out.println("run " + run + ": " + trace);
                return;
            }
        }
    }

    private static void step(FourPhases x, Model m, StringBuilder trace, int style) {
        int kind = draw(100);
        if (kind < 25) {
            int s = near(0, 1);
            int w = near(0, 15);
            check(trace, "add(" + s + "," + w + ")", x.add(s, w), m.add(s, w));
        } else if (kind < 40) {
            int t = draw(40) == 0 ? near(1, 1000) : near(1, style == 0 ? 5 : 30);
            check(trace, "run(" + t + ")", x.run(t), m.run(t));
        } else if (kind < 42) {
            check(trace, "finish()", x.finish(), m.finish());
        } else if (kind < 57) {
            int l = near(0, m.now.stages);
            int w = near(0, 2);
            int d = style == 1 ? near(1, 3) : near(1, 20);
            check(trace, "setDelay(" + l + "," + w + "," + d + ")", x.setDelay(l, w, d), m.setDelay(l, w, d));
        } else if (kind < 63) {
            int s = near(0, 2);
            int v = s == 2 ? near(0, 1) : style == 1 ? near(0, 2) : near(0, 20);
            check(trace, "set(" + s + "," + v + ")", x.set(s, v), m.set(s, v));
        } else if (kind < 70) {
            String order = someOrder();
            for (int i = 0; i < order.length(); i++) {
                check(trace, "type(" + order.charAt(i) + ")", x.type(order.charAt(i)), m.type(order.charAt(i)));
            }
        } else if (kind < 73) {
            check(trace, "clearText()", x.clearText(), m.clearText());
        } else if (kind < 83) {
            check(trace, "perform()", x.perform(), m.perform());
        } else if (kind < 86) {
            check(trace, "undo()", x.undo(), m.undo());
        } else if (kind < 87) {
            check(trace, "keep()", x.keep(), m.keep());
        } else if (kind < 88) {
            check(trace, "restore()", x.restore(), m.restore());
        } else if (kind < 89) {
            int n = near(1, 6);
            check(trace, "build(" + n + ")", x.build(n), m.build(n));
        } else if (kind < 93) {
            int l = near(0, 20);
            int w = near(0, 2);
            check(trace, "ifLead(" + l + "," + w + ")", x.ifLead(l, w), m.ifLead(l, w));
        } else if (kind < 96) {
            check(trace, "leastLead()", x.leastLead(), m.leastLead());
        } else {
            check(trace, "dearest()", x.dearest(), m.dearest());
        }
    }

    private static String someOrder() {
        String comma = draw(8) == 0 ? "" : ",";
        switch (draw(8)) {
            case 0: return comma + "." + (1 + draw(120));
            case 1: return comma + "rkd".charAt(draw(3)) + draw(8) + "=" + draw(23);
            case 2: return "" + LETTERS.charAt(draw(LETTERS.length()));
            case 3: return "." + (1 + draw(99));
            case 4: return "ab".charAt(draw(2)) + Integer.toHexString(draw(16));
            default: return comma + "ab".charAt(draw(2)) + Integer.toHexString(draw(16));
        }
    }

    /** Compares all that can be asked without a simulation, the arguments just outside of the ranges too. */
    private static void look(FourPhases x, Model m, StringBuilder trace) {
        for (int what = -1; what <= 15; what++) {
            check(null, "total(" + what + ")", x.total(what), m.total(what));
        }
        check(null, "next()", x.next(), m.next());
        check(null, "quietIn()", x.quietIn(), m.quietIn());
        for (int link = -1; link <= 7; link++) {
            for (int what = -1; what <= 13; what++) {
                check(null, "link(" + link + "," + what + ")", x.link(link, what), m.link(link, what));
            }
            check(null, "stage(" + link + ")", x.stage(link), m.stage(link));
        }
        for (int sender = -1; sender <= 2; sender++) {
            for (int place = -1; place <= 20; place++) {
                check(null, "waiting(" + sender + "," + place + ")", x.waiting(sender, place),
                    m.waiting(sender, place));
            }
        }
        for (int rank = -1; rank <= 51; rank++) {
            for (int what = -1; what <= 3; what++) {
                check(null, "noted(" + rank + "," + what + ")", x.noted(rank, what), m.noted(rank, what));
            }
        }
    }

    private static void check(StringBuilder trace, String call, int got, int want) {
        if (trace != null) {
            trace.append(call).append('=').append(got).append(' ');
        }
        if (got != want) {
            wrong++;
            System.out.println(call + " answered " + got + ", the model says " + want);
        }
    }

    /** Each number of stages with full rows and each of some delays, where the most changes are under way. */
    private static void longSettledRuns() {
        for (int stages = 1; stages <= 6; stages++) {
            for (int slow = 0; slow < 8; slow++) {
                FourPhases x = new FourPhases();
                Model m = new Model();
                StringBuilder trace = new StringBuilder();
                check(trace, "build", x.build(stages), m.build(stages));
                for (int link = 0; link <= stages; link++) {
                    for (int wire = 0; wire < 3; wire++) {
                        int delay = (slow >> wire & 1) == 0 ? 1 : 20;
                        check(trace, "setDelay", x.setDelay(link, wire, delay), m.setDelay(link, wire, delay));
                    }
                }
                check(trace, "set", x.set(0, 0), m.set(0, 0));
                for (int word = 0; word < 22; word++) {
                    check(trace, "add", x.add(0, word % 16), m.add(0, word % 16));
                    check(trace, "add", x.add(1, word * 7 % 16), m.add(1, word * 7 % 16));
                }
                for (int i = 0; i < 30; i++) {
                    check(trace, "run", x.run(7), m.run(7));
                    look(x, m, trace);
                }
                check(trace, "leastLead", x.leastLead(), m.leastLead());
                check(trace, "dearest", x.dearest(), m.dearest());
                check(trace, "finish", x.finish(), m.finish());
                look(x, m, trace);
            }
        }
    }

    private static final class Change {
        final int time;
        final int link;
        final String wire;
        final int value;

        Change(int time, int link, String wire, int value) {
            this.time = time;
            this.link = link;
            this.wire = wire;
            this.value = value;
        }
    }

    private static final class World {
        int stages = 3;
        int time = 0;
        int latest = -5;
        int arrived = 0;
        int lead = 1;
        int think = 0;
        int rule = 0;
        int[][] delay = new int[7][3];
        int[][] shown = new int[7][6];
        boolean[] rest = new boolean[7];
        boolean[] waits = new boolean[7];
        int[] offers = new int[7];
        Integer[] full = new Integer[6];
        List<List<Integer>> rows = new ArrayList<>();
        List<Change> changes = new ArrayList<>();
        List<Integer> offered = new ArrayList<>();
        List<int[]> noted = new ArrayList<>();

        World() {
            rows.add(new ArrayList<>());
            rows.add(new ArrayList<>());
            for (int i = 0; i < 7; i++) {
                rest[i] = true;
                delay[i] = new int[] {2, 2, 2};
            }
        }

        World copy() {
            World w = new World();
            w.stages = stages;
            w.time = time;
            w.latest = latest;
            w.arrived = arrived;
            w.lead = lead;
            w.think = think;
            w.rule = rule;
            for (int i = 0; i < 7; i++) {
                w.delay[i] = delay[i].clone();
                w.shown[i] = shown[i].clone();
            }
            w.rest = rest.clone();
            w.waits = waits.clone();
            w.offers = offers.clone();
            w.full = full.clone();
            w.rows.get(0).addAll(rows.get(0));
            w.rows.get(1).addAll(rows.get(1));
            w.changes.addAll(changes);
            w.offered.addAll(offered);
            w.noted.addAll(noted);
            return w;
        }

        /** The earliest one; of several the one that was made first, which stands first in the list. */
        Change first() {
            Change best = null;
            for (Change c : changes) {
                if (best == null || c.time < best.time) {
                    best = c;
                }
            }
            return best;
        }

        void settle() {
            while (!changes.isEmpty()) {
                step();
            }
        }

        void step() {
            Change c = first();
            changes.remove(c);
            time = c.time;
            arrived++;
            int k = c.link;
            if (c.wire.equals("data")) {
                shown[k][5] = c.value;
            } else if (c.wire.equals("request")) {
                shown[k][1] = c.value;
                if (c.value == 0) {
                    answer(k, 0, 0);
                } else if (k == stages) {
                    int rank = noted.size();
                    int right = offered.get(rank) == shown[k][5] ? 1 : 0;
                    noted.add(new int[] {shown[k][5], time, right});
                    answer(k, 1, think);
                } else if (full[k] == null) {
                    take(k);
                } else {
                    waits[k] = true;
                }
            } else {
                shown[k][3] = c.value;
                if (c.value == 1) {
                    request(k, 0, 0);
                    if (k > 0) {
                        full[k - 1] = null;
                        if (waits[k - 1]) {
                            take(k - 1);
                        }
                    }
                } else {
                    rest[k] = true;
                    if (k == 0) {
                        letGo();
                    } else if (full[k - 1] != null) {
                        offer(k, full[k - 1]);
                    }
                }
            }
        }

        void take(int k) {
            waits[k] = false;
            full[k] = shown[k][5];
            answer(k, 1, 0);
            if (rest[k + 1]) {
                offer(k + 1, full[k]);
            }
        }

        void request(int k, int value, int extra) {
            shown[k][0] = value;
            changes.add(new Change(time + delay[k][0] + extra, k, "request", value));
        }

        void answer(int k, int value, int extra) {
            shown[k][2] = value;
            changes.add(new Change(time + delay[k][1] + extra, k, "answer", value));
        }

        void offer(int k, int word) {
            shown[k][4] = word;
            changes.add(new Change(time + delay[k][2], k, "data", word));
            request(k, 1, lead);
            rest[k] = false;
            offers[k]++;
        }

        void letGo() {
            if (!rest[0]) {
                return;
            }
            boolean zero = !rows.get(0).isEmpty();
            boolean one = !rows.get(1).isEmpty();
            if (!zero && !one) {
                return;
            }
            int sender = zero ? 0 : 1;
            if (zero && one) {
                sender = rule == 1 || latest != 0 ? 0 : 1;
            }
            latest = sender;
            int word = 16 * sender + rows.get(sender).remove(0);
            offered.add(word);
            offer(0, word);
        }

        int rights() {
            int count = 0;
            for (int[] note : noted) {
                count += note[2];
            }
            return count;
        }
    }

    private static final class Model {
        private static final String ORDER = "(?:[ab][0-9a-f]|\\.[1-9][0-9]?|[rkd][0-6]=(?:20|1[0-9]|[1-9]))";
        private static final Pattern ORDERS = Pattern.compile(ORDER + "(?:," + ORDER + ")*", Pattern.DOTALL);
        World now = new World();
        List<World> history = new ArrayList<>();
        World snapshot = null;
        String text = "";

        private void record(World before) {
            history.add(before);
            if (history.size() > 4) {
                history.remove(0);
            }
        }

        int build(int n) {
            if (n < 1 || n > 6) return -2;
            int words = total(2) + total(3);
            record(now);
            World w = new World();
            w.stages = n;
            w.lead = now.lead;
            w.think = now.think;
            w.rule = now.rule;
            now = w;
            return words;
        }

        private int addTo(World w, int s, int word) {
            if (s != 0 && s != 1) return -1;
            if (word < 0 || word > 15) return -2;
            if (w.rows.get(s).size() == 20) return -3;
            w.rows.get(s).add(word);
            w.letGo();
            return w.rows.get(s).size();
        }

        private int runIn(World w, int ticks) {
            if (ticks < 1 || ticks > 1000) return -2;
            int end = w.time + ticks;
            if (end > 1000000) return -3;
            int before = w.noted.size();
            while (!w.changes.isEmpty() && w.first().time <= end) {
                w.step();
            }
            w.time = end;
            return w.noted.size() - before;
        }

        private int delayIn(World w, int link, int wire, int delay) {
            if (link < 0 || link > w.stages || wire < 0 || wire > 2) return -1;
            if (delay < 1 || delay > 20) return -2;
            int old = w.delay[link][wire];
            if (old == delay) return -5;
            w.delay[link][wire] = delay;
            return old;
        }

        private int commit(World w, int answer) {
            if (answer >= 0) {
                record(now);
                now = w;
            }
            return answer;
        }

        int add(int s, int word) {
            World w = now.copy();
            return commit(w, addTo(w, s, word));
        }

        int run(int ticks) {
            World w = now.copy();
            return commit(w, runIn(w, ticks));
        }

        int finish() {
            if (now.changes.isEmpty()) return -5;
            World w = now.copy();
            w.settle();
            if (w.time > 1000000) return -3;
            return commit(w, w.time - now.time);
        }

        int setDelay(int link, int wire, int delay) {
            World w = now.copy();
            return commit(w, delayIn(w, link, wire, delay));
        }

        int set(int setting, int value) {
            if (setting < 0 || setting > 2) return -1;
            if (value < 0 || value > (setting == 2 ? 1 : 20)) return -2;
            int old = total(10 + setting);
            if (old == value) return -5;
            World w = now.copy();
            if (setting == 0) w.lead = value;
            if (setting == 1) w.think = value;
            if (setting == 2) w.rule = value;
            return commit(w, old);
        }

        int type(char c) {
            if (text.length() == 60) return -3;
            text += c;
            return text.length();
        }

        int clearText() {
            int length = text.length();
            text = "";
            return length;
        }

        private int fault() {
            for (int i = 0; i < text.length(); i++) {
                Matcher matcher = ORDERS.matcher(text.substring(0, i + 1));
                if (!matcher.matches() && !matcher.hitEnd()) return i;
            }
            return ORDERS.matcher(text).matches() ? -1 : text.length();
        }

        int perform() {
            int fault = fault();
            if (fault >= 0) return -100 - fault;
            World w = now.copy();
            String[] orders = text.split(",");
            for (String order : orders) {
                char c = order.charAt(0);
                int answer;
                if (c == 'a' || c == 'b') {
                    answer = addTo(w, c - 'a', Integer.parseInt(order.substring(1), 16));
                } else if (c == '.') {
                    answer = runIn(w, Integer.parseInt(order.substring(1)));
                } else {
                    answer = delayIn(w, order.charAt(1) - '0', "rkd".indexOf(c), Integer.parseInt(order.substring(3)));
                }
                if (answer < 0 && answer != -5) return answer;
            }
            return commit(w, orders.length);
        }

        int undo() {
            if (history.isEmpty()) return -5;
            now = history.remove(history.size() - 1);
            return history.size();
        }

        int keep() {
            snapshot = now.copy();
            return now.time;
        }

        int restore() {
            if (snapshot == null) return -5;
            return commit(snapshot.copy(), snapshot.time);
        }

        int link(int k, int what) {
            if (k < 0 || k > now.stages) return -1;
            if (what < 0 || what > 12) return -2;
            if (what < 3) return now.delay[k][what];
            if (what < 9) return now.shown[k][what - 3];
            if (what == 9) return now.rest[k] ? 1 : 0;
            if (what == 10) return now.waits[k] ? 1 : 0;
            if (what == 11) return now.offers[k];
            return now.delay[k][2] > now.delay[k][0] + now.lead ? 0 : 1;
        }

        int stage(int s) {
            if (s < 0 || s >= now.stages) return -1;
            return now.full[s] == null ? -5 : now.full[s];
        }

        int waiting(int s, int place) {
            if (s != 0 && s != 1) return -1;
            if (place < 0) return -2;
            return place < now.rows.get(s).size() ? now.rows.get(s).get(place) : -5;
        }

        int noted(int rank, int what) {
            if (rank < 0 || what < 0 || what > 2) return -2;
            if (rank >= 50 || rank >= now.noted.size()) return -5;
            return now.noted.get(now.noted.size() - 1 - rank)[what];
        }

        int total(int what) {
            int full = 0;
            for (Integer word : now.full) {
                if (word != null) full++;
            }
            int[] totals = {now.stages, now.time, now.rows.get(0).size() + now.rows.get(1).size(), full,
                now.changes.size(), now.offered.size(), now.noted.size(), now.rights(), now.arrived, now.latest,
                now.lead, now.think, now.rule, history.size(), text.length()};
            return what < 0 || what >= totals.length ? -2 : totals[what];
        }

        int next() {
            return now.changes.isEmpty() ? -5 : now.first().time;
        }

        int quietIn() {
            World w = now.copy();
            w.settle();
            return w.time - now.time;
        }

        private World settledWith(int lead) {
            World w = now.copy();
            w.lead = lead;
            w.settle();
            return w;
        }

        private int wrongIn(World w) {
            return w.noted.size() - now.noted.size() - (w.rights() - now.rights());
        }

        int ifLead(int lead, int what) {
            if (lead < 0 || lead > 20 || what < 0 || what > 2) return -2;
            World w = settledWith(lead);
            return what == 0 ? w.time - now.time : what == 1 ? w.noted.size() - now.noted.size() : wrongIn(w);
        }

        int leastLead() {
            for (int lead = 0; lead <= 20; lead++) {
                if (wrongIn(settledWith(lead)) == 0) return lead;
            }
            return -5;
        }

        int dearest() {
            int best = -5;
            int earliest = Integer.MAX_VALUE;
            for (int k = 0; k <= now.stages; k++) {
                for (int wire = 0; wire < 3; wire++) {
                    if (now.delay[k][wire] == 1) continue;
                    World w = now.copy();
                    w.delay[k][wire]--;
                    w.settle();
                    if (w.time < earliest) {
                        earliest = w.time;
                        best = 10 * k + wire;
                    }
                }
            }
            return best;
        }
    }
}
