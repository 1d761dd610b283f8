import java.util.ArrayList;
import java.util.Collections;
import java.util.List;
import java.util.Random;

/** Long runs of calls beside a second program, which goes from person to person and from bun to bun. */
public final class ModelRuns {
    private static final long FAR = 4000000000000000000L;

    private static class Office {
        int level;
        int people;
        int chat;
        Office(int level, int people, int chat) { this.level = level; this.people = people; this.chat = chat; }
        int code() { return 0; }
        int come(int minute) { return people; }
        int buns() { return 1; }
        int serving(int n) { return n / 2 + n % 2 + chat; }
    }

    private static class Meeting extends Office {
        Meeting(int l, int p, int c) { super(l, p, c); }
        @Override int code() { return 1; }
        @Override int come(int minute) { return minute >= 10 ? super.come(minute) : 0; }
    }

    private static class Telephone extends Office {
        Telephone(int l, int p, int c) { super(l, p, c); }
        @Override int code() { return 2; }
        @Override int come(int minute) { return super.come(minute) - super.come(minute) / 2; }
    }

    private static class Director extends Office {
        Director(int l, int p, int c) { super(l, p, c); }
        @Override int code() { return 3; }
        @Override int serving(int n) { return super.serving(n) + 2; }
    }

    private static class Greedy extends Telephone {
        Greedy(int l, int p, int c) { super(l, p, c); }
        @Override int code() { return 4; }
        @Override int buns() { return 3; }
    }

    private static class Quick extends Meeting {
        Quick(int l, int p, int c) { super(l, p, c); }
        @Override int code() { return 5; }
        @Override int serving(int n) { return super.serving(n) / 2; }
    }

    private static Office office(char kind, int l, int p, int c) {
        switch (kind) {
            case 'o': return new Office(l, p, c);
            case 'm': return new Meeting(l, p, c);
            case 't': return new Telephone(l, p, c);
            case 'd': return new Director(l, p, c);
            case 'g': return new Greedy(l, p, c);
            default: return new Quick(l, p, c);
        }
    }

    private static final class State {
        List<Office> floors = new ArrayList<>();
        List<Integer> order = new ArrayList<>();
        int[] set = {40, 90, 10, 10, 10, 4, 0, 1, 1, 0};

        State copy() {
            State s = new State();
            for (Office f : floors) s.floors.add(office("omtdgq".charAt(f.code()), f.level, f.people, f.chat));
            s.order.addAll(order);
            s.set = set.clone();
            return s;
        }

        State ordered(List<Integer> other) {
            State s = copy();
            s.order = new ArrayList<>(other);
            return s;
        }

        State with(int what, int v) {
            State s = copy();
            s.set[what] = v;
            return s;
        }

        int lift(int a, int b) { return a == b ? 0 : set[7] + Math.abs(a - b); }
        int going(int a, int b) { return set[6] == 1 ? 3 * Math.abs(a - b) : lift(a, b); }
    }

    /** What a round did, minute by minute for the urn, bun by bun for the people. */
    private static final class Told {
        int[] total = new int[8];
        int[][] at = new int[6][4];
        int[] cold = new int[6];
        int[] standing = new int[6];
        int minute = 0;
        int sinceFilled = 0;
        int warmAtFirst;

        Told(State s, boolean oneEach) {
            int[] left = {s.set[2], s.set[3], s.set[4]};
            int cups = s.set[0];
            int level = s.set[5];
            warmAtFirst = s.set[1];
            for (int i = 0; i < s.order.size(); i++) {
                Office f = s.floors.get(s.order.get(i));
                pass(s.going(level, f.level));
                level = f.level;
                at[i][0] = minute;
                int come = f.come(minute);
                if (cups < come && s.set[8] == 1) { pass(11); cups = 40; fresh(90); }
                else if (cups < come && s.set[8] == 2) {
                    int half = (warm() + 90) / 2;
                    pass(6);
                    cups = Math.min(40, cups + 20);
                    fresh(half);
                }
                at[i][1] = warm();
                standing[i] = come * minute;
                int kept = i + 1 < s.order.size() ? s.set[9] : 0;
                for (int person = 0; person < come; person++) {
                    if (cups == 0) { total[2]++; continue; }
                    cups--;
                    at[i][2]++;
                    if (warm() < 60) cold[i]++;
                    boolean any = false;
                    for (int bun = 0; bun < (oneEach ? 1 : f.buns()); bun++) any |= takes(left, kept, i);
                    if (!any) total[5]++;
                }
                pass(f.serving(at[i][2]));
                total[1] += at[i][2];
                total[3] += cold[i];
                total[4] += at[i][3];
                total[6] += standing[i];
            }
            total[0] = minute;
            total[7] = minute + total[3] + total[3] + 3 * total[5] + 4 * total[2];
        }

        private boolean takes(int[] left, int kept, int i) {
            if (left[0] > kept) { left[0]--; at[i][3]++; return true; }
            if (left[1] > 0) { left[1]--; return true; }
            if (left[2] > 0) { left[2]--; return true; }
            return false;
        }

        private void pass(int minutes) { minute += minutes; sinceFilled += minutes; }
        private void fresh(int warm) { warmAtFirst = warm; sinceFilled = 0; }
        private int warm() { return Math.max(0, warmAtFirst - sinceFilled / 4); }
    }

    private static void orders(int n, List<Integer> begun, List<List<Integer>> all) {
        if (begun.size() == n) { all.add(new ArrayList<>(begun)); return; }
        for (int f = 0; f < n; f++) {
            if (begun.contains(f)) continue;
            begun.add(f);
            orders(n, begun, all);
            begun.remove(begun.size() - 1);
        }
    }

    private State now = new State();
    private State image = null;
    private final StringBuilder letters = new StringBuilder();
    private final List<Integer> row = new ArrayList<>();
    private final int[] refusals = new int[7];

    private long refuse(int r) { refusals[-r]++; return r; }
    private boolean no(int floor) { return floor < 0 || floor >= now.floors.size(); }
    private Told told() { return new Told(now, false); }

    private List<List<Integer>> allOrders() {
        List<List<Integer>> all = new ArrayList<>();
        orders(now.floors.size(), new ArrayList<>(), all);
        return all;
    }

    private long house() {
        String text = letters.toString();
        letters.setLength(0);
        String statement = "(f[omtdgq]\\d\\d\\d\\d|u\\d\\d\\d\\d|b\\d\\d\\d\\d\\d\\d|s\\d|g\\d\\d|r\\d\\d\\d|x\\d\\d);";
        if (!text.matches("(" + statement + ")+")) return -1000 - longestBeginning(text, statement);
        State s = now.copy();
        int place = 0;
        String[] parts = text.split(";");
        for (String part : parts) {
            if (!told(s, part)) return -2000 - place;
            place += part.length() + 1;
        }
        now = s;
        return parts.length;
    }

    /** How far a text can be told on to the end: tried with every tail there is. */
    private static int longestBeginning(String text, String statement) {
        String[] tails = {"", ";", "0;", "00;", "000;", "0000;", "00000;", "000000;", "o0000;"};
        for (int n = text.length(); n > 0; n--) {
            for (String tail : tails) {
                if ((text.substring(0, n) + tail).matches("(" + statement + ")+")) return n;
            }
        }
        return 0;
    }

    private static int number(String part, int from, int digits) {
        return Integer.parseInt(part.substring(from, from + digits));
    }

    private static boolean told(State s, String p) {
        switch (p.charAt(0)) {
            case 'f': {
                int people = number(p, 3, 2);
                if (s.floors.size() == 6 || people == 0 || people > 20) return false;
                s.order.add(s.floors.size());
                return s.floors.add(office(p.charAt(1), number(p, 2, 1), people, number(p, 5, 1)));
            }
            case 'u': return put(s, p, 0, 2, 40, 99);
            case 'b': return put(s, p, 2, 2, 60, 60, 60);
            case 's': return put(s, p, 5, 1, 9);
            case 'g': return put(s, p, 6, 1, 1, 9);
            case 'r':
                if (number(p, 1, 1) > 2 || number(p, 2, 2) > 20) return false;
                s.set[8] = number(p, 1, 1);
                s.set[9] = number(p, 2, 2);
                return true;
            default: {
                int a = s.order.indexOf(number(p, 1, 1));
                int b = s.order.indexOf(number(p, 2, 1));
                if (a < 0 || b < 0 || a == b) return false;
                Collections.swap(s.order, a, b);
                return true;
            }
        }
    }

    private static boolean put(State s, String p, int what, int digits, int... most) {
        for (int k = 0; k < most.length; k++) {
            int v = number(p, 1 + k * digits, digits);
            if (v > most[k]) return false;
            s.set[what + k] = v;
        }
        return true;
    }

    private long best(int what, int i) {
        boolean most = what == 1 || what == 4;
        List<Integer> first = null;
        int found = 0;
        for (List<Integer> order : allOrders()) {
            int v = new Told(now.ordered(order), false).total[what];
            if (first == null || (most ? v > found : v < found)) { first = order; found = v; }
        }
        return i < 0 ? found : first.get(i);
    }

    private int[] turned() {
        int n = now.floors.size();
        int[] days = new int[n];
        List<Integer> order = new ArrayList<>(now.order);
        for (int day = 0; day < n; day++) {
            Told t = new Told(now.ordered(order), false);
            for (int i = 0; i < n; i++) if (t.cold[i] > 0) days[order.get(i)]++;
            order.add(order.remove(0));
        }
        return days;
    }

    private long least(int what, int most) {
        int best = 0;
        for (int v = 1; v <= most; v++) {
            if (new Told(now.with(what, v), false).total[7] < new Told(now.with(what, best), false).total[7]) best = v;
        }
        return best;
    }

    private long keep(int what) {
        if (now.floors.isEmpty()) return 0;
        int last = now.floors.size() - 1;
        int best = 0;
        for (int v = 1; v <= 20; v++) {
            if (new Told(now.with(9, v), false).at[last][3] > new Told(now.with(9, best), false).at[last][3]) best = v;
        }
        return what == 0 ? best : new Told(now.with(9, best), false).at[last][3];
    }

    private long machine() {
        int sum = 0;
        for (Office f : now.floors) sum += f.people * (f.level + f.level + 1);
        return sum;
    }

    private long late(int t, int part) {
        int tenths = 0;
        int level = now.set[5];
        for (int f : now.order) {
            int to = now.floors.get(f).level;
            tenths += now.lift(level, to) * (10 - t) + 3 * Math.abs(to - level) * t;
            level = to;
        }
        int line = 10;
        for (int d = 2; d <= 10; d++) while (tenths % d == 0 && line % d == 0) { tenths /= d; line /= d; }
        return part == 0 ? tenths : line;
    }

    private long more(int floor) {
        int missed = told().total[2];
        int most = 0;
        for (int m = 1; now.floors.get(floor).people + m <= 20; m++) {
            State s = now.copy();
            s.floors.get(floor).people += m;
            if (new Told(s, false).total[2] <= missed) most = m;
        }
        return most;
    }

    private long squeak(int most) {
        Told t = told();
        int sum = 0;
        for (int i = 0; i < now.order.size(); i++) if (now.floors.get(now.order.get(i)).level <= most) sum += t.standing[i];
        return sum;
    }

    private int judged(Told t) {
        for (int i = 0; i < row.size(); i++) if (i >= now.floors.size() || row.get(i) != t.at[i][2]) return i;
        return -9;
    }

    private long fits(int i) {
        List<Integer> first = null;
        int n = 0;
        for (List<Integer> order : allOrders()) {
            if (judged(new Told(now.ordered(order), false)) != -9) continue;
            if (first == null) first = order;
            n++;
        }
        if (i < 0) return n;
        return first == null ? -9 : first.get(i);
    }

    private long lots(int n, int z) {
        int sum = 0;
        int seed = z;
        for (int day = 0; day < n; day++) {
            State s = now.copy();
            for (Office f : s.floors) {
                seed = (int) (seed * 1664525L + 1013904223L);
                long unsigned = seed < 0 ? seed + 2147483648L : seed;
                f.people = (int) (unsigned / 256 % 20 + 1);
            }
            sum += new Told(s, false).total[7];
        }
        return sum;
    }

    private long count(int what) {
        if (what >= 11 && what <= 16) return refusals[what - 10];
        int people = 0;
        for (Office f : now.floors) people += f.people;
        int[] all = {now.floors.size(), people, now.set[2] + now.set[3] + now.set[4], now.set[0], now.set[1], now.set[5],
            now.set[6], now.set[8], row.size(), letters.length()};
        return what >= 0 && what < all.length ? all[what] : -9;
    }

    private static final String[] NAMES = {"letter", "house", "story", "place", "change", "people", "set", "come", "going",
        "total", "at", "when", "best", "bestAt", "turned", "most", "enough", "fill", "ramp", "keep", "oneEach", "machine",
        "saves", "late", "more", "squeak", "row", "fits", "judge", "lots", "image", "on", "count"};

    private long early(int call, int a, int b) {
        int[] most = {40, 99, 60, 60, 60, 9, 1, 9, 2, 20};
        switch (call) {
            case 0:
                if (a < 0) return refuse(-4);
                if (a > 255 || letters.length() == 96) return refuse(-6);
                letters.append((char) a);
                return letters.length();
            case 1: return house();
            case 2: {
                if (no(a)) return refuse(-1);
                if (b < 0 || b > 4) return refuse(-2);
                Office f = now.floors.get(a);
                return new int[] {f.code(), f.level, f.people, f.chat, now.order.indexOf(a)}[b];
            }
            case 3: return no(a) ? refuse(-1) : now.order.get(a);
            case 4:
                if (no(a) || no(b) || a == b) return refuse(-1);
                Collections.swap(now.order, now.order.indexOf(a), now.order.indexOf(b));
                return now.order.indexOf(a);
            case 5: {
                if (no(a)) return refuse(-1);
                if (b < 1) return refuse(-4);
                if (b > 20) return refuse(-6);
                int before = now.floors.get(a).people;
                now.floors.get(a).people = b;
                return before;
            }
            case 6: {
                if (a < 0 || a > 9) return refuse(-2);
                if (b < 0) return refuse(-4);
                if (b > most[a]) return refuse(-6);
                int before = now.set[a];
                now.set[a] = b;
                return before;
            }
            case 7:
                if (no(a)) return refuse(-1);
                if (b < 0) return refuse(-4);
                return b > 999 ? refuse(-6) : now.floors.get(a).come(b);
            case 8:
                if (a < 0 || b < 0) return refuse(-4);
                return a > 9 || b > 9 ? refuse(-6) : now.going(a, b);
            case 9: return a < 0 || a > 7 ? refuse(-2) : told().total[a];
            case 10:
                if (no(a)) return refuse(-1);
                return b < 0 || b > 3 ? refuse(-2) : told().at[a][b];
            default: return no(a) ? refuse(-1) : told().at[now.order.indexOf(a)][0];
        }
    }

    private long later(int call, int a, int b) {
        switch (call) {
            case 12: return a < 0 || a > 7 ? refuse(-2) : best(a, -1);
            case 13:
                if (a < 0 || a > 7) return refuse(-2);
                return no(b) ? refuse(-1) : best(a, b);
            case 14: return no(a) ? refuse(-1) : turned()[a];
            case 15: {
                int top = 0;
                for (int days : turned()) top = Math.max(top, days);
                return top;
            }
            case 16:
                if (a < 0 || a > 2) return refuse(-2);
                for (int v = 0; v <= 60; v++) if (new Told(now.with(2 + a, v), false).total[5] == 0) return v;
                return -9;
            case 17: return least(8, 2);
            case 18: return least(6, 1);
            case 19: return a < 0 || a > 1 ? refuse(-2) : keep(a);
            case 20: return told().total[5] - new Told(now, true).total[5];
            case 21: return machine();
            case 22: return machine() - told().total[6];
            case 23:
                if (a < 0) return FAR - refuse(-4);
                if (a > 10) return FAR - refuse(-6);
                return b < 0 || b > 1 ? FAR - refuse(-2) : late(a, b);
            case 24: return no(a) ? refuse(-1) : more(a);
            case 25:
                if (a < 0) return refuse(-4);
                return a > 9 ? refuse(-6) : squeak(a);
            case 26:
                if (a < 0) return refuse(-4);
                if (a > 99 || row.size() == 12) return refuse(-6);
                row.add(a);
                return row.size();
            case 27:
                if (a < -1) return refuse(-4);
                return a != -1 && no(a) ? refuse(-1) : fits(a);
            case 28: {
                int answer = judged(told());
                row.clear();
                return answer;
            }
            case 29:
                if (a < 1) return refuse(-4);
                return a > 20 ? refuse(-6) : lots(a, b);
            case 30: image = now.copy(); return now.floors.size();
            case 31:
                if (image == null) return refuse(-3);
                now = image.copy();
                return now.floors.size();
            default: return count(a);
        }
    }

    private long call(int call, int a, int b) { return call < 12 ? early(call, a, b) : later(call, a, b); }

    private static long calledEarly(TrolleyAtEleven x, int call, int a, int b) {
        switch (call) {
            case 0: return x.letter(a);
            case 1: return x.house();
            case 2: return x.story(a, b);
            case 3: return x.place(a);
            case 4: return x.change(a, b);
            case 5: return x.people(a, b);
            case 6: return x.set(a, b);
            case 7: return x.come(a, b);
            case 8: return x.going(a, b);
            case 9: return x.total(a);
            case 10: return x.at(a, b);
            case 11: return x.when(a);
            case 12: return x.best(a);
            case 13: return x.bestAt(a, b);
            case 14: return x.turned(a);
            case 15: return x.most();
            default: return x.enough(a);
        }
    }

    private static long called(TrolleyAtEleven x, int call, int a, int b) {
        switch (call) {
            case 17: return x.fill();
            case 18: return x.ramp();
            case 19: return x.keep(a);
            case 20: return x.oneEach();
            case 21: return x.machine();
            case 22: return x.saves();
            case 23: return x.late(a, b);
            case 24: return x.more(a);
            case 25: return x.squeak(a);
            case 26: return x.row(a);
            case 27: return x.fits(a);
            case 28: return x.judge();
            case 29: return x.lots(a, b);
            case 30: return x.image();
            case 31: return x.on();
            case 32: return x.count(a);
            default: return calledEarly(x, call, a, b);
        }
    }

    private static String digits(Random r, int below, int digits) {
        String all = "0" + r.nextInt(below);
        return all.substring(all.length() - digits);
    }

    private static String statement(Random r) {
        int off = r.nextInt(40) == 0 ? 5 : 0;
        switch (r.nextInt(14)) {
            case 0: return "u" + digits(r, 41 + off, 2) + digits(r, 100, 2) + ";";
            case 1: return "b" + digits(r, 61, 2) + digits(r, 61 + off, 2) + digits(r, 61, 2) + ";";
            case 2: return "s" + digits(r, 10, 1) + ";";
            case 3: return "g" + digits(r, 2 + off, 1) + digits(r, 10, 1) + ";";
            case 4: return "r" + digits(r, 3, 1) + digits(r, 21 + off, 2) + ";";
            case 5: return "x" + digits(r, 3, 1) + digits(r, 4, 1) + ";";
            case 6: return "b" + digits(r, 9, 2) + digits(r, 9, 2) + digits(r, 9, 2) + ";";
            default:
                return "f" + "omtdgq".charAt(r.nextInt(6)) + digits(r, 10, 1)
                    + digits(r, 20 + off, 2).replace("00", "20") + digits(r, 10, 1) + ";";
        }
    }

    private static String text(Random r) {
        StringBuilder text = new StringBuilder();
        int statements = 1 + r.nextInt(9);
        for (int i = 0; i < statements; i++) text.append(statement(r));
        if (r.nextInt(5) == 0) text.setCharAt(r.nextInt(text.length()), "fubsgrxomtdq0123456789;z".charAt(r.nextInt(24)));
        if (r.nextInt(8) == 0) text.setLength(r.nextInt(text.length() + 1));
        return text.toString();
    }

    private static int argument(Random r) {
        switch (r.nextInt(20)) {
            case 0: return new int[] {Integer.MIN_VALUE, Integer.MAX_VALUE, -1, -2, 1000, 256}[r.nextInt(6)];
            case 1: return r.nextInt(1100) - 50;
            case 2: case 3: return r.nextInt(110) - 5;
            case 4: case 5: case 6: return r.nextInt(24) - 2;
            case 7: case 8: return r.nextInt(12) - 1;
            default: return r.nextInt(6);
        }
    }

    private int wrong = 0;
    private int calls = 0;

    private void both(TrolleyAtEleven x, int run, int call, int a, int b) {
        long want = call(call, a, b);
        long got = called(x, call, a, b);
        calls++;
        if (want == got) return;
        wrong++;
        System.out.println("run " + run + ", call " + calls + ": " + NAMES[call] + "(" + a + ", " + b + ") answered " + got
            + ", due is " + want);
    }

    private void run(int run) {
        Random r = new Random(run);
        TrolleyAtEleven x = new TrolleyAtEleven();
        while (calls < 512 && wrong == 0) {
            if (calls < 400 && r.nextInt(30) == 0 || calls == 0 && run % 8 != 0) {
                String text = text(r);
                for (int i = 0; i < text.length(); i++) both(x, run, 0, text.charAt(i), 0);
                both(x, run, 1, 0, 0);
            }
            int call = 2 + r.nextInt(31);
            if (call == 31 && r.nextInt(4) != 0) call = 6;
            int a = argument(r);
            int b = call == 29 ? r.nextInt() : call == 23 ? r.nextInt(2) : argument(r);
            both(x, run, call, a, b);
        }
    }

    public static void main(String[] args) {
        int runs = 400;
        int wrong = 0;
        long calls = 0;
        for (int run = 0; run < runs && wrong == 0; run++) {
            ModelRuns model = new ModelRuns();
            model.run(run);
            wrong += model.wrong;
            calls += model.calls;
        }
        System.out.println(calls + " calls beside the model, " + wrong + " not as due");
        if (wrong != 0) System.exit(1);
    }
}
