import java.util.ArrayList;
import java.util.HashSet;
import java.util.LinkedHashMap;
import java.util.List;
import java.util.Map;
import java.util.Random;
import java.util.Set;

/** Long runs of drawn calls, answered by the class and by a second, plainer writing of the document. */
public final class RandomRunsTest {
    private static final int RUNS = 4000;
    private static final int CALLS = 512;
    private static final String LETTERS = "AB%*";

    private RandomRunsTest() {
    }

    public static void main(String[] args) {
        for (int run = 0; run < RUNS; run++) {
            new Run(run).go();
        }
        Check.end("RandomRunsTest");
    }

    /** The seed is the run's number: the same calls every time. */
    private static final class Run {
        final int number;
        final Random random;
        final ProfileRights x = new ProfileRights();
        final Model m = new Model();

        Run(int number) {
            this.number = number;
            this.random = new Random(number);
        }

        void go() {
            for (int i = 0; i < CALLS; i++) {
                int kind = i < 60 ? random.nextInt(13) : random.nextInt(60);
                one(kind, "run " + number + " call " + i + ": ");
            }
        }

        void one(int kind, String at) {
            switch (kind) {
                case 0: case 1: {
                    int a = someGroup(0);
                    both(at + "group " + a, () -> x.group(a), () -> m.group(a));
                    break;
                }
                case 2: case 3: {
                    int g = someGroup(1);
                    both(at + "user " + g, () -> x.user(g), () -> m.user(g));
                    break;
                }
                case 4: case 5: {
                    int c = some(0, 1, 8);
                    int o = someUser();
                    both(at + "profile " + c + " " + o, () -> x.profile(c, o), () -> m.profile(c, o));
                    break;
                }
                case 6: case 7: case 8: case 9: case 10: {
                    int p = someProfile();
                    int c = some(33, 126, 127);
                    int l = random.nextInt(12) == 0 ? c : LETTERS.charAt(random.nextInt(4));
                    both(at + "name " + p + " " + l, () -> x.name(p, l), () -> m.name(p, l));
                    break;
                }
                case 11: case 12: {
                    int c = some(0, 1, 8);
                    int v = some(0, 2, 3);
                    both(at + "mode " + c + " " + v, () -> x.mode(c, v), () -> m.mode(c, v));
                    break;
                }
                default:
                    later(kind, at);
            }
        }

        void later(int kind, String at) {
            int u = someUser();
            int p = someProfile();
            int w = someHolder();
            int l = some(-1, 4, 5);
            boolean on = random.nextBoolean();
            switch (kind) {
                case 13: case 14: {
                    int g = someGroup(1);
                    int a = someGroup(0);
                    both(at + "move " + g + " " + a, () -> x.move(g, a), () -> m.move(g, a));
                    break;
                }
                case 15: case 16: {
                    int t = some(0, 2, 100);
                    both(at + "terminal " + u + " " + t, () -> x.terminal(u, t), () -> m.terminal(u, t));
                    break;
                }
                case 17: case 18:
                    both(at + "revoke " + u + " " + on, () -> x.revoke(u, on), () -> m.revoke(u, on));
                    break;
                case 19: case 20:
                    both(at + "pass " + u + " " + on, () -> x.pass(u, on), () -> m.pass(u, on));
                    break;
                case 21: case 22: case 23: {
                    int marks = some(0, 7, 8);
                    both(at + "universal " + p + " " + l + " " + marks,
                            () -> x.universal(p, l, marks), () -> m.universal(p, l, marks));
                    break;
                }
                case 24: case 25: case 26: case 27: case 28:
                    both(at + "permit " + p + " " + w + " " + l,
                            () -> x.permit(p, w, l), () -> m.permit(p, w, l));
                    break;
                case 29: case 30: case 31: {
                    int t = some(0, 2, 100);
                    int h = random.nextInt();
                    both(at + "condition " + p + " " + w + " " + t + " " + h,
                            () -> x.condition(p, w, t, h), () -> m.condition(p, w, t, h));
                    break;
                }
                case 32: case 33: {
                    int i = random.nextInt(12) - 1;
                    both(at + "who " + p + " " + i, () -> x.who(p, i), () -> m.who(p, i));
                    break;
                }
                case 34: case 35: {
                    int o = someUser();
                    both(at + "surrogate " + u + " " + o + " " + on,
                            () -> x.surrogate(u, o, on), () -> m.surrogate(u, o, on));
                    break;
                }
                case 36: case 37: {
                    int o = someUser();
                    both(at + "acts " + u + " " + o,
                            () -> Check.told(x.acts(u, o)), () -> Check.told(m.acts(u, o)));
                    break;
                }
                case 38: {
                    int what = random.nextInt(8) - 1;
                    both(at + "count " + what, () -> x.count(what), () -> m.count(what));
                    break;
                }
                case 39: {
                    int i = random.nextInt(m.audit.size() + 3) - 1;
                    int what = random.nextInt(7) - 1;
                    both(at + "audit " + i + " " + what, () -> x.audit(i, what), () -> m.audit(i, what));
                    break;
                }
                case 40: case 41: case 42:
                    both(at + "matched", () -> x.matched(), () -> m.matched);
                    break;
                default:
                    askOrMay(u, at);
            }
        }

        void askOrMay(int u, String at) {
            if (random.nextInt(3) > 0) {
                int c = random.nextInt(40) == 0 ? some(33, 126, 127) : LETTERS.charAt(random.nextInt(
                        random.nextInt(6) == 0 ? 4 : 2));
                both(at + "ask " + c, () -> x.ask(c), () -> m.ask(c));
                return;
            }
            int c = some(0, 1, 8);
            int l = some(1, 4, 5);
            long t = random.nextInt(30) == 0 ? random.nextLong() : random.nextInt(3000);
            both(at + "may " + u + " " + c + " " + l + " " + t,
                    () -> x.may(u, c, l, t), () -> m.may(u, c, l, t));
        }

        /** Mostly of low .. high, at times wrong or far off. */
        int some(int low, int high, int wrong) {
            int draw = random.nextInt(60);
            if (draw == 0) {
                return wrong;
            }
            if (draw == 1) {
                return low - 1;
            }
            return draw == 2 ? random.nextInt() : low + random.nextInt(high - low + 1);
        }

        int someGroup(int low) {
            return some(low, Math.max(low, m.above.size()), m.above.size() + 1);
        }

        /** Mostly one of the first few, so that what was told of one is used again. */
        int someUser() {
            int most = random.nextInt(4) == 0 ? m.home.size() : Math.min(4, m.home.size());
            return some(1, Math.max(1, most), m.home.size() + 1);
        }

        int someProfile() {
            return some(1, Math.max(1, m.rows.size()), m.rows.size() + 1);
        }

        int someHolder() {
            return random.nextBoolean() ? someUser() : -someGroup(1);
        }

        static void both(String what, Check.Call tested, Check.Call model) {
            Check.same(what, Check.outcome(tested), Check.outcome(model));
        }
    }

    private static final class Guard {
        int cls;
        String name = "";
        int universal;
        int marks;
        final Map<Integer, int[]> list = new LinkedHashMap<>();
    }

    /** The document's words, one by one, with the library's means. */
    private static final class Model {
        final List<Integer> above = new ArrayList<>();
        final List<Integer> home = new ArrayList<>();
        final List<Integer> tries = new ArrayList<>();
        final List<Integer> places = new ArrayList<>();
        final Set<Integer> revoked = new HashSet<>();
        final Set<String> surrogates = new HashSet<>();
        final List<Guard> rows = new ArrayList<>();
        final List<int[]> audit = new ArrayList<>();
        final int[] modes = new int[8];
        String asked = "";
        int matched;

        static void need(boolean so) {
            if (!so) {
                throw new IllegalArgumentException();
            }
        }

        static void room(boolean so) {
            if (!so) {
                throw new IllegalStateException();
            }
        }

        boolean isGroup(long g) {
            return g >= 1 && g <= above.size();
        }

        boolean isUser(long u) {
            return u >= 1 && u <= home.size();
        }

        boolean isHolder(int w) {
            return isUser(w) || isGroup(-(long) w);
        }

        Guard guard(int p) {
            need(p >= 1 && p <= rows.size());
            return rows.get(p - 1);
        }

        int group(int a) {
            need(a == 0 || isGroup(a));
            room(above.size() < 20);
            above.add(a);
            return above.size();
        }

        int move(int g, int a) {
            need(isGroup(g));
            need(a == 0 || isGroup(a));
            for (int up = a; up != 0; up = above.get(up - 1)) {
                if (up == g) {
                    return 0;
                }
            }
            above.set(g - 1, a);
            return 1;
        }

        int user(int g) {
            need(isGroup(g));
            room(home.size() < 40);
            home.add(g);
            tries.add(3);
            places.add(0);
            return home.size();
        }

        int terminal(int u, int t) {
            need(isUser(u));
            need(t >= 0 && t <= 99);
            return places.set(u - 1, t);
        }

        int revoke(int u, boolean on) {
            need(isUser(u));
            boolean changed = on ? revoked.add(u) : revoked.remove(u);
            if (changed && !on) {
                tries.set(u - 1, 3);
            }
            return changed ? 1 : 0;
        }

        int pass(int u, boolean good) {
            need(isUser(u));
            if (revoked.contains(u)) {
                return -1;
            }
            int left = good ? 3 : tries.get(u - 1) - 1;
            tries.set(u - 1, left);
            if (left == 0) {
                revoked.add(u);
            }
            return left;
        }

        int mode(int c, int v) {
            need(c >= 0 && c <= 7 && v >= 0 && v <= 2);
            int was = modes[c];
            modes[c] = v;
            return was;
        }

        int profile(int c, int o) {
            need(c >= 0 && c <= 7 && isUser(o));
            room(rows.size() < 60);
            Guard g = new Guard();
            g.cls = c;
            rows.add(g);
            return rows.size();
        }

        int name(int p, int c) {
            Guard g = guard(p);
            need(c >= 33 && c <= 126);
            room(g.name.length() < 20);
            g.name += (char) c;
            return g.name.length();
        }

        int universal(int p, int l, int marks) {
            Guard g = guard(p);
            need(l >= 0 && l <= 4 && marks >= 0 && marks <= 7);
            int was = 8 * g.universal + g.marks;
            g.universal = l;
            g.marks = marks;
            return was;
        }

        int permit(int p, int w, int l) {
            Guard g = guard(p);
            need(isHolder(w) && l >= -1 && l <= 4);
            int[] e = g.list.get(w);
            int was = e == null ? -1 : e[0];
            if (l == -1) {
                g.list.remove(w);
            } else if (e != null) {
                e[0] = l;
            } else {
                room(g.list.size() < 10);
                g.list.put(w, new int[] {l, 0, -1});
            }
            return was;
        }

        int condition(int p, int w, int t, int h) {
            Guard g = guard(p);
            need(isHolder(w) && t >= 0 && t <= 99);
            int[] e = g.list.get(w);
            if (e == null) {
                return 0;
            }
            e[1] = t;
            e[2] = h;
            return 1;
        }

        int ask(int c) {
            if (c < 33 || c > 126) {
                asked = "";
            } else if (asked.length() < 20) {
                asked += (char) c;
            }
            return asked.length();
        }

        int who(int p, int i) {
            List<Integer> holders = new ArrayList<>(guard(p).list.keySet());
            return i < 0 || i >= holders.size() ? 0 : holders.get(i);
        }

        int surrogate(int u, int o, boolean on) {
            need(isUser(u) && isUser(o));
            String pair = u + ">" + o;
            return u != o && (on ? surrogates.add(pair) : surrogates.remove(pair)) ? 1 : 0;
        }

        boolean acts(int u, int o) {
            need(isUser(u) && isUser(o));
            return u == o || surrogates.contains(u + ">" + o);
        }

        int count(int what) {
            int entries = rows.stream().mapToInt(g -> g.list.size()).sum();
            int[] all = {above.size(), home.size(), rows.size(), audit.size(), revoked.size(), entries};
            return what < 0 || what > 5 ? -1 : all[what];
        }

        int audit(int i, int what) {
            return i < 0 || i >= Math.min(200, audit.size()) || what < 0 || what > 4 ? -1 : audit.get(i)[what];
        }

        int may(int u, int c, int l, long t) {
            need(isUser(u) && c >= 0 && c <= 7 && l >= 1 && l <= 4 && t >= 0);
            String name = asked;
            asked = "";
            matched = 0;
            if (revoked.contains(u)) {
                return written(u, c, l, 0);
            }
            if (modes[c] == 0) {
                return 1;
            }
            List<Integer> fitting = new ArrayList<>();
            List<Integer> global = new ArrayList<>();
            for (int p = 1; p <= rows.size(); p++) {
                Guard g = rows.get(p - 1);
                if (g.cls == c && fits(g.name, name)) {
                    fitting.add(p);
                    if ((g.marks & 4) != 0 && g.universal >= l) {
                        global.add(p);
                    }
                }
            }
            if (!global.isEmpty()) {
                matched = best(global);
                return 1;
            }
            if (fitting.isEmpty()) {
                return modes[c] == 1 ? 1 : written(u, c, l, 0);
            }
            matched = best(fitting);
            Guard g = rows.get(matched - 1);
            if (level(g, u, t) >= l) {
                return (g.marks & 2) != 0 ? written(u, c, l, 1) : 1;
            }
            return written(u, c, l, (g.marks & 1) != 0 ? 2 : 0);
        }

        int written(int u, int c, int l, int answer) {
            audit.add(new int[] {u, c, l, answer, matched});
            return answer;
        }

        int level(Guard g, int u, long t) {
            List<Integer> holders = new ArrayList<>(List.of(u));
            for (int up = home.get(u - 1); up != 0; up = above.get(up - 1)) {
                holders.add(-up);
            }
            for (int w : holders) {
                int[] e = g.list.get(w);
                if (e != null && (e[1] == 0 || e[1] == places.get(u - 1)) && (e[2] & 1 << t / 60 % 24) != 0) {
                    return e[0];
                }
            }
            return g.universal;
        }

        /** By trying every row that a * can stand for. */
        static boolean fits(String pattern, String name) {
            if (pattern.isEmpty()) {
                return name.isEmpty();
            }
            String rest = pattern.substring(1);
            if (pattern.charAt(0) == '*') {
                return fits(rest, name) || !name.isEmpty() && fits(pattern, name.substring(1));
            }
            return !name.isEmpty() && (pattern.charAt(0) == '%' || pattern.charAt(0) == name.charAt(0))
                    && fits(rest, name.substring(1));
        }

        int best(List<Integer> fitting) {
            int best = fitting.get(0);
            for (int p : fitting) {
                if (rank(p) > rank(best)) {
                    best = p;
                }
            }
            return best;
        }

        int rank(int p) {
            String name = rows.get(p - 1).name;
            String plain = name.replace("%", "").replace("*", "");
            int exact = plain.equals(name) ? 1 : 0;
            int ahead = name.split("[%*]", 2)[0].length();
            return exact * 10000 + ahead * 100 + plain.length();
        }
    }
}
